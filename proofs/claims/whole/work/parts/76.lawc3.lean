/-! printed: the law's cases 24 to 31 -/
section LWC
variable {p : Program} {l : Launch} {e : Env} {s : State} {m : MethodId} {below : List Frame} {meth : Method} {c : Code} {H : Heap} {locs : List Loc} {cells slots : Nat} {Q : State → Prop}
variable {b L o : Nat} {xs : Nat → Int32} {ls : Array Slot} {Γ : Wc} {ax am : Nat → Nat → Nat} {σ τ : Sig} {f : Nat → Int64}
set_option maxHeartbeats 4000000 in
set_option maxRecDepth 100000 in
theorem lc_24 (C : LC l Γ p s m b L xs c) (D : LD s ax am o) (I : LI Γ s ax am o σ τ f H locs) (hR : Rl σ τ) {j : Nat} (hj : j + 6 ≤ L ∧ L ≤ 3072) (hl : lv_has ls 9 (LV b ax am o j)) (hcs : cells + 5 ≤ 601024 ∧ slots + 30 ≤ 7293034) {x : Int32} (hx : x.toInt = 24) (K : LK p l e s m b below meth c Γ ax am o Q cells slots j) : W p l e room_1 s m #[Value.ref b] below meth c H locs cells slots Q (F0 m 40 ls [.int x]) := by
  refine lv_tableIn (off := 1519) (tgt := 1559) C.1 C.2.1 dL_law_40 (by rw [hx]; decide) (by rw [hx]; decide) (by rw [hx]; rfl) (by decide) ?_
  obtain ⟨r, τ', e1, e2, hR'⟩ := lo_time hR
  refine lv_aload_n C.1 C.2.1 dL_law_1559 rfl (lv_at hl 2 rfl) ?_
  refine lx_i C D I (As := []) (rest := []) (w11_time l Γ ax (AXs ax) σ r e1) mz_239 rfl ⟨Nat.le_of_ble_eq_true rfl, Nat.le_of_ble_eq_true rfl⟩ rfl (Nat.le_of_ble_eq_true rfl) hl.1 ⟨by omega, by omega⟩ dL_law_1560 (fun H1 locs1 I1 => ?_)
  refine lv_aload_n C.1 C.2.1 dL_law_1563 rfl (lv_at hl 3 rfl) ?_
  refine lm_i C D I1 (As := []) (rest := [.int r]) (w12_time l Γ am (AMs am) τ r τ' e2) mz_242 rfl ⟨Nat.le_of_ble_eq_true rfl, Nat.le_of_ble_eq_true rfl⟩ rfl (Nat.le_of_ble_eq_true rfl) hl.1 ⟨by omega, by omega⟩ dL_law_1564 (fun H2 locs2 I2 => ?_)
  refine lv_icmp_eq (tgt := 3262) C.1 C.2.1 dL_law_1567 (by decide) (fun _ => ?_) (fun h => absurd rfl h)
  refine W.widen (k := cells + 5) (n := slots + 30) (by omega) (by omega) ?_
  exact K _ _ _ _ _ _ I2 hR' hl
set_option maxHeartbeats 4000000 in
set_option maxRecDepth 100000 in
theorem lc_25 (C : LC l Γ p s m b L xs c) (D : LD s ax am o) (I : LI Γ s ax am o σ τ f H locs) (hR : Rl σ τ) {j : Nat} (hj : j + 6 ≤ L ∧ L ≤ 3072) (hl : lv_has ls 9 (LV b ax am o j)) (hcs : cells + 5 ≤ 601024 ∧ slots + 30 ≤ 7293034) {x : Int32} (hx : x.toInt = 25) (K : LK p l e s m b below meth c Γ ax am o Q cells slots j) : W p l e room_1 s m #[Value.ref b] below meth c H locs cells slots Q (F0 m 40 ls [.int x]) := by
  refine lv_tableIn (off := 1532) (tgt := 1572) C.1 C.2.1 dL_law_40 (by rw [hx]; decide) (by rw [hx]; decide) (by rw [hx]; rfl) (by decide) ?_
  obtain ⟨r, τ', e1, e2, hR'⟩ := lo_day hR
  refine lv_aload_n C.1 C.2.1 dL_law_1572 rfl (lv_at hl 2 rfl) ?_
  refine lx_i C D I (As := []) (rest := []) (w11_day l Γ ax (AXs ax) σ r e1) mz_243 rfl ⟨Nat.le_of_ble_eq_true rfl, Nat.le_of_ble_eq_true rfl⟩ rfl (Nat.le_of_ble_eq_true rfl) hl.1 ⟨by omega, by omega⟩ dL_law_1573 (fun H1 locs1 I1 => ?_)
  refine lv_aload_n C.1 C.2.1 dL_law_1576 rfl (lv_at hl 3 rfl) ?_
  refine lm_i C D I1 (As := []) (rest := [.int r]) (w12_day l Γ am (AMs am) τ r τ' e2) mz_246 rfl ⟨Nat.le_of_ble_eq_true rfl, Nat.le_of_ble_eq_true rfl⟩ rfl (Nat.le_of_ble_eq_true rfl) hl.1 ⟨by omega, by omega⟩ dL_law_1577 (fun H2 locs2 I2 => ?_)
  refine lv_icmp_eq (tgt := 3262) C.1 C.2.1 dL_law_1580 (by decide) (fun _ => ?_) (fun h => absurd rfl h)
  refine W.widen (k := cells + 5) (n := slots + 30) (by omega) (by omega) ?_
  exact K _ _ _ _ _ _ I2 hR' hl
set_option maxHeartbeats 4000000 in
set_option maxRecDepth 100000 in
theorem lc_26 (C : LC l Γ p s m b L xs c) (D : LD s ax am o) (I : LI Γ s ax am o σ τ f H locs) (hR : Rl σ τ) {j : Nat} (hj : j + 6 ≤ L ∧ L ≤ 3072) (hl : lv_has ls 9 (LV b ax am o j)) (hcs : cells + 5 ≤ 601024 ∧ slots + 30 ≤ 7293034) {x : Int32} (hx : x.toInt = 26) (K : LK p l e s m b below meth c Γ ax am o Q cells slots j) : W p l e room_1 s m #[Value.ref b] below meth c H locs cells slots Q (F0 m 40 ls [.int x]) := by
  refine lv_tableIn (off := 1545) (tgt := 1585) C.1 C.2.1 dL_law_40 (by rw [hx]; decide) (by rw [hx]; decide) (by rw [hx]; rfl) (by decide) ?_
  obtain ⟨r, τ', e1, e2, hR'⟩ := lo_isOpen hR
  refine lv_aload_n C.1 C.2.1 dL_law_1585 rfl (lv_at hl 2 rfl) ?_
  refine lx_i C D I (As := []) (rest := []) (w11_isOpen l Γ ax (AXs ax) σ r e1) mz_247 rfl ⟨Nat.le_of_ble_eq_true rfl, Nat.le_of_ble_eq_true rfl⟩ rfl (Nat.le_of_ble_eq_true rfl) hl.1 ⟨by omega, by omega⟩ dL_law_1586 (fun H1 locs1 I1 => ?_)
  refine lv_aload_n C.1 C.2.1 dL_law_1589 rfl (lv_at hl 3 rfl) ?_
  refine lm_i C D I1 (As := []) (rest := [.int r]) (w12_isOpen l Γ am (AMs am) τ r τ' e2) mz_251 rfl ⟨Nat.le_of_ble_eq_true rfl, Nat.le_of_ble_eq_true rfl⟩ rfl (Nat.le_of_ble_eq_true rfl) hl.1 ⟨by omega, by omega⟩ dL_law_1590 (fun H2 locs2 I2 => ?_)
  refine lv_icmp_eq (tgt := 3262) C.1 C.2.1 dL_law_1593 (by decide) (fun _ => ?_) (fun h => absurd rfl h)
  refine W.widen (k := cells + 5) (n := slots + 30) (by omega) (by omega) ?_
  exact K _ _ _ _ _ _ I2 hR' hl
set_option maxHeartbeats 4000000 in
set_option maxRecDepth 100000 in
theorem lc_27 (C : LC l Γ p s m b L xs c) (D : LD s ax am o) (I : LI Γ s ax am o σ τ f H locs) (hR : Rl σ τ) {j : Nat} (hj : j + 6 ≤ L ∧ L ≤ 3072) (hl : lv_has ls 9 (LV b ax am o j)) (hcs : cells + 5 ≤ 601024 ∧ slots + 30 ≤ 7293034) {x : Int32} (hx : x.toInt = 27) (K : LK p l e s m b below meth c Γ ax am o Q cells slots j) : W p l e room_1 s m #[Value.ref b] below meth c H locs cells slots Q (F0 m 40 ls [.int x]) := by
  refine lv_tableIn (off := 1558) (tgt := 1598) C.1 C.2.1 dL_law_40 (by rw [hx]; decide) (by rw [hx]; decide) (by rw [hx]; rfl) (by decide) ?_
  obtain ⟨r, τ', e1, e2, hR'⟩ := lo_ticksUntilOpen hR
  refine lv_aload_n C.1 C.2.1 dL_law_1598 rfl (lv_at hl 2 rfl) ?_
  refine lx_i C D I (As := []) (rest := []) (w11_ticksUntilOpen l Γ ax (AXs ax) σ r e1) mz_252 rfl ⟨Nat.le_of_ble_eq_true rfl, Nat.le_of_ble_eq_true rfl⟩ rfl (Nat.le_of_ble_eq_true rfl) hl.1 ⟨by omega, by omega⟩ dL_law_1599 (fun H1 locs1 I1 => ?_)
  refine lv_aload_n C.1 C.2.1 dL_law_1602 rfl (lv_at hl 3 rfl) ?_
  refine lm_i C D I1 (As := []) (rest := [.int r]) (w12_ticksUntilOpen l Γ am (AMs am) τ r τ' e2) mz_255 rfl ⟨Nat.le_of_ble_eq_true rfl, Nat.le_of_ble_eq_true rfl⟩ rfl (Nat.le_of_ble_eq_true rfl) hl.1 ⟨by omega, by omega⟩ dL_law_1603 (fun H2 locs2 I2 => ?_)
  refine lv_icmp_eq (tgt := 3262) C.1 C.2.1 dL_law_1606 (by decide) (fun _ => ?_) (fun h => absurd rfl h)
  refine W.widen (k := cells + 5) (n := slots + 30) (by omega) (by omega) ?_
  exact K _ _ _ _ _ _ I2 hR' hl
set_option maxHeartbeats 4000000 in
set_option maxRecDepth 100000 in
theorem lc_28 (C : LC l Γ p s m b L xs c) (D : LD s ax am o) (I : LI Γ s ax am o σ τ f H locs) (hR : Rl σ τ) {j : Nat} (hj : j + 6 ≤ L ∧ L ≤ 3072) (hl : lv_has ls 9 (LV b ax am o j)) (hcs : cells + 5 ≤ 601024 ∧ slots + 30 ≤ 7293034) {x : Int32} (hx : x.toInt = 28) (K : LK p l e s m b below meth c Γ ax am o Q cells slots j) : W p l e room_1 s m #[Value.ref b] below meth c H locs cells slots Q (F0 m 40 ls [.int x]) := by
  refine lv_tableIn (off := 1571) (tgt := 1611) C.1 C.2.1 dL_law_40 (by rw [hx]; decide) (by rw [hx]; decide) (by rw [hx]; rfl) (by decide) ?_
  obtain ⟨r, τ', e1, e2, hR'⟩ := lo_bedCount hR
  refine lv_aload_n C.1 C.2.1 dL_law_1611 rfl (lv_at hl 2 rfl) ?_
  refine lx_i C D I (As := []) (rest := []) (w11_bedCount l Γ ax (AXs ax) σ r e1) mz_256 rfl ⟨Nat.le_of_ble_eq_true rfl, Nat.le_of_ble_eq_true rfl⟩ rfl (Nat.le_of_ble_eq_true rfl) hl.1 ⟨by omega, by omega⟩ dL_law_1612 (fun H1 locs1 I1 => ?_)
  refine lv_aload_n C.1 C.2.1 dL_law_1615 rfl (lv_at hl 3 rfl) ?_
  refine lm_i C D I1 (As := []) (rest := [.int r]) (w12_bedCount l Γ am (AMs am) τ r τ' e2) mz_259 rfl ⟨Nat.le_of_ble_eq_true rfl, Nat.le_of_ble_eq_true rfl⟩ rfl (Nat.le_of_ble_eq_true rfl) hl.1 ⟨by omega, by omega⟩ dL_law_1616 (fun H2 locs2 I2 => ?_)
  refine lv_icmp_eq (tgt := 3262) C.1 C.2.1 dL_law_1619 (by decide) (fun _ => ?_) (fun h => absurd rfl h)
  refine W.widen (k := cells + 5) (n := slots + 30) (by omega) (by omega) ?_
  exact K _ _ _ _ _ _ I2 hR' hl
set_option maxHeartbeats 4000000 in
set_option maxRecDepth 100000 in
theorem lc_29 (C : LC l Γ p s m b L xs c) (D : LD s ax am o) (I : LI Γ s ax am o σ τ f H locs) (hR : Rl σ τ) {j : Nat} (hj : j + 6 ≤ L ∧ L ≤ 3072) (hl : lv_has ls 9 (LV b ax am o j)) (hcs : cells + 5 ≤ 601024 ∧ slots + 30 ≤ 7293034) {x : Int32} (hx : x.toInt = 29) (K : LK p l e s m b below meth c Γ ax am o Q cells slots j) : W p l e room_1 s m #[Value.ref b] below meth c H locs cells slots Q (F0 m 40 ls [.int x]) := by
  have hcs5 : cells + 5 ≤ 601024 ∧ slots + 30 ≤ 7293034 := hcs
  refine lv_tableIn (off := 1584) (tgt := 1624) C.1 C.2.1 dL_law_40 (by rw [hx]; decide) (by rw [hx]; decide) (by rw [hx]; rfl) (by decide) ?_
  obtain ⟨q, r, τ', e1, e2, hR', hc⟩ := lo_scentOf (xs (j + 1)) hR
  refine lv_aload_n C.1 C.2.1 dL_law_1624 rfl (lv_at hl 2 rfl) ?_
  refine l_rd C I 1 (lv_at hl 1 rfl) (lv_at hl 0 rfl) hj (by decide) rfl dL_law_1625 dL_law_1626 dL_law_1628 dL_law_1629 dL_law_1630 ?_
  refine lv_aload_n C.1 C.2.1 dL_law_1631 rfl (lv_at hl 4 rfl) ?_
  refine lw_s C D I (As := [.ref (ax 0 0), .int (xs (j + 1)), .ref o]) (rest := []) (wL_scentOf l (C.2.2.2.2.2.2.2.2.2.2.2) Γ ax o (xs (j + 1)) σ q e1 (by simpa using hq_of hc)) mz_260 ⟨Nat.le_of_ble_eq_true rfl, Nat.le_of_ble_eq_true rfl⟩ rfl (Nat.le_of_ble_eq_true rfl) hl.1 (by decide) hcs dL_law_1632 (fun k f1 H1 locs1 I1 hk => ?_)
  have he := th_eq (by decide) (by decide) hc hk
  refine lv_istore (lv' := (5, .int k) :: LV b ax am o j) C.1 C.2.1 dL_law_1635 hl (by decide) rfl (fun ls hl => ?_)
  refine lv_aload_n C.1 C.2.1 dL_law_1637 rfl (lv_at hl 4 rfl) ?_
  refine l_rd C I1 1 (lv_at hl 2 rfl) (lv_at hl 1 rfl) hj (by decide) rfl dL_law_1638 dL_law_1639 dL_law_1641 dL_law_1642 dL_law_1643 ?_
  refine lm_i C D I1 (As := [.int (xs (j + 1))]) (rest := []) (w12_scentOf l Γ am (AMs am) (xs (j + 1)) τ r τ' e2) mz_262 rfl ⟨Nat.le_of_ble_eq_true rfl, Nat.le_of_ble_eq_true rfl⟩ rfl (Nat.le_of_ble_eq_true rfl) hl.1 hcs5 dL_law_1644 (fun H2 locs2 I2 => ?_)
  refine lv_istore (lv' := (6, .int r) :: (5, .int k) :: LV b ax am o j) C.1 C.2.1 dL_law_1647 hl (by decide) rfl (fun ls hl => ?_)
  refine lv_aload_n C.1 C.2.1 dL_law_1649 rfl (lv_at hl 5 rfl) ?_
  refine lm_i C D I2 (As := []) (rest := []) (w12_thrown l Γ am (AMs am) τ' (τ' 0 0 0) rfl) mz_161 rfl ⟨Nat.le_of_ble_eq_true rfl, Nat.le_of_ble_eq_true rfl⟩ rfl (Nat.le_of_ble_eq_true rfl) hl.1 hcs5 dL_law_1650 (fun H3 locs3 I3 => ?_)
  refine lv_iload C.1 C.2.1 dL_law_1653 (lv_at hl 1 rfl) ?_
  refine lv_icmp_eq (tgt := 1660) C.1 C.2.1 dL_law_1655 (by decide) (fun _ => ?_) (fun h => absurd he.1 h)
  refine lv_iload C.1 C.2.1 dL_law_1660 (lv_at hl 1 rfl) ?_
  refine lv_if_ne (tgt := 1677) C.1 C.2.1 dL_law_1662 (by decide) (fun _ => (by refine lv_goto (tgt := 3262) C.1 C.2.1 dL_law_1677 (by decide) ?_; exact K _ _ _ _ _ _ I3 hR' (lv_sub hl [2, 3, 4, 5, 6] rfl))) (fun h => ?_)
  obtain ⟨h1, h2, h3⟩ := he.2 h
  refine lv_aload_n C.1 C.2.1 dL_law_1665 rfl (lv_at hl 6 rfl) ?_
  refine lv_iconst (v := 0) C.1 C.2.1 dL_law_1666 (by decide) ?_
  refine va_lald C.1 C.2.1 C.2.2.2.2.2.1 (vaP1 I3.2.2.2) 0 5 rfl rfl vp01 dL_law_1667 ?_
  refine lv_iload C.1 C.2.1 dL_law_1668 (lv_at hl 0 rfl) ?_
  refine lv_i2l C.1 C.2.1 dL_law_1670 rfl ?_
  refine W.lcmp C.1 C.2.1 dL_law_1671 ?_
  refine lv_if_eq (tgt := 1677) C.1 C.2.1 dL_law_1672 (by decide) (fun _ => (by refine lv_goto (tgt := 3262) C.1 C.2.1 dL_law_1677 (by decide) ?_; exact K _ _ _ _ _ _ I3 hR' (lv_sub hl [2, 3, 4, 5, 6] rfl))) (fun h => absurd (lg0 (by rw [h2]; exact h3)) h)
set_option maxHeartbeats 4000000 in
set_option maxRecDepth 100000 in
theorem lc_30 (C : LC l Γ p s m b L xs c) (D : LD s ax am o) (I : LI Γ s ax am o σ τ f H locs) (hR : Rl σ τ) {j : Nat} (hj : j + 6 ≤ L ∧ L ≤ 3072) (hl : lv_has ls 9 (LV b ax am o j)) (hcs : cells + 5 ≤ 601024 ∧ slots + 30 ≤ 7293034) {x : Int32} (hx : x.toInt = 30) (K : LK p l e s m b below meth c Γ ax am o Q cells slots j) : W p l e room_1 s m #[Value.ref b] below meth c H locs cells slots Q (F0 m 40 ls [.int x]) := by
  have hcs5 : cells + 5 ≤ 601024 ∧ slots + 30 ≤ 7293034 := hcs
  refine lv_tableIn (off := 1640) (tgt := 1680) C.1 C.2.1 dL_law_40 (by rw [hx]; decide) (by rw [hx]; decide) (by rw [hx]; rfl) (by decide) ?_
  obtain ⟨q, r, τ', e1, e2, hR', hc⟩ := lo_isInSeason (xs (j + 1)) hR
  refine lv_aload_n C.1 C.2.1 dL_law_1680 rfl (lv_at hl 2 rfl) ?_
  refine l_rd C I 1 (lv_at hl 1 rfl) (lv_at hl 0 rfl) hj (by decide) rfl dL_law_1681 dL_law_1682 dL_law_1684 dL_law_1685 dL_law_1686 ?_
  refine lv_aload_n C.1 C.2.1 dL_law_1687 rfl (lv_at hl 4 rfl) ?_
  refine lw_s C D I (As := [.ref (ax 0 0), .int (xs (j + 1)), .ref o]) (rest := []) (wL_isInSeason l (C.2.2.2.2.2.2.2.2.2.2.2) Γ ax o (xs (j + 1)) σ q e1 (lb_isInSeason e1) (by simpa using hq_of hc)) mz_263 ⟨Nat.le_of_ble_eq_true rfl, Nat.le_of_ble_eq_true rfl⟩ rfl (Nat.le_of_ble_eq_true rfl) hl.1 (by decide) hcs dL_law_1688 (fun k f1 H1 locs1 I1 hk => ?_)
  have he := th_eq (by decide) (by decide) hc hk
  refine lv_istore (lv' := (5, .int k) :: LV b ax am o j) C.1 C.2.1 dL_law_1691 hl (by decide) rfl (fun ls hl => ?_)
  refine lv_aload_n C.1 C.2.1 dL_law_1693 rfl (lv_at hl 4 rfl) ?_
  refine l_rd C I1 1 (lv_at hl 2 rfl) (lv_at hl 1 rfl) hj (by decide) rfl dL_law_1694 dL_law_1695 dL_law_1697 dL_law_1698 dL_law_1699 ?_
  refine lm_i C D I1 (As := [.int (xs (j + 1))]) (rest := []) (w12_isInSeason l Γ am (AMs am) (xs (j + 1)) τ r τ' e2) mz_265 rfl ⟨Nat.le_of_ble_eq_true rfl, Nat.le_of_ble_eq_true rfl⟩ rfl (Nat.le_of_ble_eq_true rfl) hl.1 hcs5 dL_law_1700 (fun H2 locs2 I2 => ?_)
  refine lv_istore (lv' := (6, .int r) :: (5, .int k) :: LV b ax am o j) C.1 C.2.1 dL_law_1703 hl (by decide) rfl (fun ls hl => ?_)
  refine lv_aload_n C.1 C.2.1 dL_law_1705 rfl (lv_at hl 5 rfl) ?_
  refine lm_i C D I2 (As := []) (rest := []) (w12_thrown l Γ am (AMs am) τ' (τ' 0 0 0) rfl) mz_161 rfl ⟨Nat.le_of_ble_eq_true rfl, Nat.le_of_ble_eq_true rfl⟩ rfl (Nat.le_of_ble_eq_true rfl) hl.1 hcs5 dL_law_1706 (fun H3 locs3 I3 => ?_)
  refine lv_iload C.1 C.2.1 dL_law_1709 (lv_at hl 1 rfl) ?_
  refine lv_icmp_eq (tgt := 1716) C.1 C.2.1 dL_law_1711 (by decide) (fun _ => ?_) (fun h => absurd he.1 h)
  refine lv_iload C.1 C.2.1 dL_law_1716 (lv_at hl 1 rfl) ?_
  refine lv_if_ne (tgt := 1740) C.1 C.2.1 dL_law_1718 (by decide) (fun _ => (by refine lv_goto (tgt := 3262) C.1 C.2.1 dL_law_1740 (by decide) ?_; exact K _ _ _ _ _ _ I3 hR' (lv_sub hl [2, 3, 4, 5, 6] rfl))) (fun h => ?_)
  obtain ⟨h1, h2, h3⟩ := he.2 h
  refine lv_aload_n C.1 C.2.1 dL_law_1721 rfl (lv_at hl 6 rfl) ?_
  refine lv_iconst (v := 0) C.1 C.2.1 dL_law_1722 (by decide) ?_
  refine va_lald C.1 C.2.1 C.2.2.2.2.2.1 (vaP1 I3.2.2.2) 0 5 rfl rfl vp01 dL_law_1723 ?_
  refine lv_iload C.1 C.2.1 dL_law_1724 (lv_at hl 0 rfl) ?_
  have hb := lb_isInSeason e1 h1
  refine lv_if_eq (tgt := 1733) C.1 C.2.1 dL_law_1726 (by decide) (fun h0 => ?_) (fun h0 => ?_)
  · refine lv_lconst (v := 0) C.1 C.2.1 dL_law_1733 (by decide) ?_
    refine W.lcmp C.1 C.2.1 dL_law_1734 ?_
    refine lv_if_eq (tgt := 1740) C.1 C.2.1 dL_law_1735 (by decide) (fun _ => (by refine lv_goto (tgt := 3262) C.1 C.2.1 dL_law_1740 (by decide) ?_; exact K _ _ _ _ _ _ I3 hR' (lv_sub hl [2, 3, 4, 5, 6] rfl))) (fun h => absurd (lg0 (h3.trans (by rw [← h2, h0]; rfl))) h)
  · refine lv_lconst (v := 1) C.1 C.2.1 dL_law_1729 (by decide) ?_
    refine lv_goto (tgt := 1734) C.1 C.2.1 dL_law_1730 (by decide) ?_
    refine W.lcmp C.1 C.2.1 dL_law_1734 ?_
    refine lv_if_eq (tgt := 1740) C.1 C.2.1 dL_law_1735 (by decide) (fun _ => (by refine lv_goto (tgt := 3262) C.1 C.2.1 dL_law_1740 (by decide) ?_; exact K _ _ _ _ _ _ I3 hR' (lv_sub hl [2, 3, 4, 5, 6] rfl))) (fun h => absurd (lg0 (h3.trans (by rw [hb.resolve_left (fun z => h0 (h2.trans z))]; rfl))) h)
set_option maxHeartbeats 4000000 in
set_option maxRecDepth 100000 in
theorem lc_31 (C : LC l Γ p s m b L xs c) (D : LD s ax am o) (I : LI Γ s ax am o σ τ f H locs) (hR : Rl σ τ) {j : Nat} (hj : j + 6 ≤ L ∧ L ≤ 3072) (hl : lv_has ls 9 (LV b ax am o j)) (hcs : cells + 5 ≤ 601024 ∧ slots + 30 ≤ 7293034) {x : Int32} (hx : x.toInt = 31) (K : LK p l e s m b below meth c Γ ax am o Q cells slots j) : W p l e room_1 s m #[Value.ref b] below meth c H locs cells slots Q (F0 m 40 ls [.int x]) := by
  have hcs5 : cells + 5 ≤ 601024 ∧ slots + 30 ≤ 7293034 := hcs
  refine lv_tableIn (off := 1703) (tgt := 1743) C.1 C.2.1 dL_law_40 (by rw [hx]; decide) (by rw [hx]; decide) (by rw [hx]; rfl) (by decide) ?_
  obtain ⟨q, r, τ', e1, e2, hR', hc⟩ := lo_blooms (xs (j + 1)) hR
  refine lv_aload_n C.1 C.2.1 dL_law_1743 rfl (lv_at hl 2 rfl) ?_
  refine l_rd C I 1 (lv_at hl 1 rfl) (lv_at hl 0 rfl) hj (by decide) rfl dL_law_1744 dL_law_1745 dL_law_1747 dL_law_1748 dL_law_1749 ?_
  refine lv_aload_n C.1 C.2.1 dL_law_1750 rfl (lv_at hl 4 rfl) ?_
  refine lw_s C D I (As := [.ref (ax 0 0), .int (xs (j + 1)), .ref o]) (rest := []) (wL_blooms l (C.2.2.2.2.2.2.2.2.2.2.2) Γ ax o (xs (j + 1)) σ q e1 (by simpa using hq_of hc)) mz_266 ⟨Nat.le_of_ble_eq_true rfl, Nat.le_of_ble_eq_true rfl⟩ rfl (Nat.le_of_ble_eq_true rfl) hl.1 (by decide) hcs dL_law_1751 (fun k f1 H1 locs1 I1 hk => ?_)
  have he := th_eq (by decide) (by decide) hc hk
  refine lv_istore (lv' := (5, .int k) :: LV b ax am o j) C.1 C.2.1 dL_law_1754 hl (by decide) rfl (fun ls hl => ?_)
  refine lv_aload_n C.1 C.2.1 dL_law_1756 rfl (lv_at hl 4 rfl) ?_
  refine l_rd C I1 1 (lv_at hl 2 rfl) (lv_at hl 1 rfl) hj (by decide) rfl dL_law_1757 dL_law_1758 dL_law_1760 dL_law_1761 dL_law_1762 ?_
  refine lm_i C D I1 (As := [.int (xs (j + 1))]) (rest := []) (w12_blooms l Γ am (AMs am) (xs (j + 1)) τ r τ' e2) mz_268 rfl ⟨Nat.le_of_ble_eq_true rfl, Nat.le_of_ble_eq_true rfl⟩ rfl (Nat.le_of_ble_eq_true rfl) hl.1 hcs5 dL_law_1763 (fun H2 locs2 I2 => ?_)
  refine lv_istore (lv' := (6, .int r) :: (5, .int k) :: LV b ax am o j) C.1 C.2.1 dL_law_1766 hl (by decide) rfl (fun ls hl => ?_)
  refine lv_aload_n C.1 C.2.1 dL_law_1768 rfl (lv_at hl 5 rfl) ?_
  refine lm_i C D I2 (As := []) (rest := []) (w12_thrown l Γ am (AMs am) τ' (τ' 0 0 0) rfl) mz_161 rfl ⟨Nat.le_of_ble_eq_true rfl, Nat.le_of_ble_eq_true rfl⟩ rfl (Nat.le_of_ble_eq_true rfl) hl.1 hcs5 dL_law_1769 (fun H3 locs3 I3 => ?_)
  refine lv_iload C.1 C.2.1 dL_law_1772 (lv_at hl 1 rfl) ?_
  refine lv_icmp_eq (tgt := 1779) C.1 C.2.1 dL_law_1774 (by decide) (fun _ => ?_) (fun h => absurd he.1 h)
  refine lv_iload C.1 C.2.1 dL_law_1779 (lv_at hl 1 rfl) ?_
  refine lv_if_ne (tgt := 1796) C.1 C.2.1 dL_law_1781 (by decide) (fun _ => (by refine lv_goto (tgt := 3262) C.1 C.2.1 dL_law_1796 (by decide) ?_; exact K _ _ _ _ _ _ I3 hR' (lv_sub hl [2, 3, 4, 5, 6] rfl))) (fun h => ?_)
  obtain ⟨h1, h2, h3⟩ := he.2 h
  refine lv_aload_n C.1 C.2.1 dL_law_1784 rfl (lv_at hl 6 rfl) ?_
  refine lv_iconst (v := 0) C.1 C.2.1 dL_law_1785 (by decide) ?_
  refine va_lald C.1 C.2.1 C.2.2.2.2.2.1 (vaP1 I3.2.2.2) 0 5 rfl rfl vp01 dL_law_1786 ?_
  refine lv_iload C.1 C.2.1 dL_law_1787 (lv_at hl 0 rfl) ?_
  refine lv_i2l C.1 C.2.1 dL_law_1789 rfl ?_
  refine W.lcmp C.1 C.2.1 dL_law_1790 ?_
  refine lv_if_eq (tgt := 1796) C.1 C.2.1 dL_law_1791 (by decide) (fun _ => (by refine lv_goto (tgt := 3262) C.1 C.2.1 dL_law_1796 (by decide) ?_; exact K _ _ _ _ _ _ I3 hR' (lv_sub hl [2, 3, 4, 5, 6] rfl))) (fun h => absurd (lg0 (by rw [h2]; exact h3)) h)
end LWC
