/-! printed: the law's cases 40 to 47 -/
section LWC
variable {p : Program} {l : Launch} {e : Env} {s : State} {m : MethodId} {below : List Frame} {meth : Method} {c : Code} {H : Heap} {locs : List Loc} {cells slots : Nat} {Q : State → Prop}
variable {b L o : Nat} {xs : Nat → Int32} {ls : Array Slot} {Γ : Wc} {ax am : Nat → Nat → Nat} {σ τ : Sig} {f : Nat → Int64}
set_option maxHeartbeats 4000000 in
set_option maxRecDepth 100000 in
theorem lc_40 (C : LC l Γ p s m b L xs c) (D : LD s ax am o) (I : LI Γ s ax am o σ τ f H locs) (hR : Rl σ τ) {j : Nat} (hj : j + 6 ≤ L ∧ L ≤ 3072) (hl : lv_has ls 9 (LV b ax am o j)) (hcs : cells + 5 ≤ 601024 ∧ slots + 30 ≤ 7293034) {x : Int32} (hx : x.toInt = 40) (K : LK p l e s m b below meth c Γ ax am o Q cells slots j) : W p l e room_1 s m #[Value.ref b] below meth c H locs cells slots Q (F0 m 40 ls [.int x]) := by
  have hcs5 : cells + 5 ≤ 601024 ∧ slots + 30 ≤ 7293034 := hcs
  refine lv_tableIn (off := 2164) (tgt := 2204) C.1 C.2.1 dL_law_40 (by rw [hx]; decide) (by rw [hx]; decide) (by rw [hx]; rfl) (by decide) ?_
  obtain ⟨q, r, τ', e1, e2, hR', hc⟩ := lo_isReturned (xs (j + 1)) hR
  refine lv_aload_n C.1 C.2.1 dL_law_2204 rfl (lv_at hl 2 rfl) ?_
  refine l_rd C I 1 (lv_at hl 1 rfl) (lv_at hl 0 rfl) hj (by decide) rfl dL_law_2205 dL_law_2206 dL_law_2208 dL_law_2209 dL_law_2210 ?_
  refine lv_aload_n C.1 C.2.1 dL_law_2211 rfl (lv_at hl 4 rfl) ?_
  refine lw_s C D I (As := [.ref (ax 0 0), .int (xs (j + 1)), .ref o]) (rest := []) (wL_isReturned l (C.2.2.2.2.2.2.2.2.2.2.2) Γ ax o (xs (j + 1)) σ q e1 (lb_isReturned e1) (by simpa using hq_of hc)) mz_294 ⟨Nat.le_of_ble_eq_true rfl, Nat.le_of_ble_eq_true rfl⟩ rfl (Nat.le_of_ble_eq_true rfl) hl.1 (by decide) hcs dL_law_2212 (fun k f1 H1 locs1 I1 hk => ?_)
  have he := th_eq (by decide) (by decide) hc hk
  refine lv_istore (lv' := (5, .int k) :: LV b ax am o j) C.1 C.2.1 dL_law_2215 hl (by decide) rfl (fun ls hl => ?_)
  refine lv_aload_n C.1 C.2.1 dL_law_2217 rfl (lv_at hl 4 rfl) ?_
  refine l_rd C I1 1 (lv_at hl 2 rfl) (lv_at hl 1 rfl) hj (by decide) rfl dL_law_2218 dL_law_2219 dL_law_2221 dL_law_2222 dL_law_2223 ?_
  refine lm_i C D I1 (As := [.int (xs (j + 1))]) (rest := []) (w12_isReturned l Γ am (AMs am) (xs (j + 1)) τ r τ' e2) mz_296 rfl ⟨Nat.le_of_ble_eq_true rfl, Nat.le_of_ble_eq_true rfl⟩ rfl (Nat.le_of_ble_eq_true rfl) hl.1 hcs5 dL_law_2224 (fun H2 locs2 I2 => ?_)
  refine lv_istore (lv' := (6, .int r) :: (5, .int k) :: LV b ax am o j) C.1 C.2.1 dL_law_2227 hl (by decide) rfl (fun ls hl => ?_)
  refine lv_aload_n C.1 C.2.1 dL_law_2229 rfl (lv_at hl 5 rfl) ?_
  refine lm_i C D I2 (As := []) (rest := []) (w12_thrown l Γ am (AMs am) τ' (τ' 0 0 0) rfl) mz_161 rfl ⟨Nat.le_of_ble_eq_true rfl, Nat.le_of_ble_eq_true rfl⟩ rfl (Nat.le_of_ble_eq_true rfl) hl.1 hcs5 dL_law_2230 (fun H3 locs3 I3 => ?_)
  refine lv_iload C.1 C.2.1 dL_law_2233 (lv_at hl 1 rfl) ?_
  refine lv_icmp_eq (tgt := 2240) C.1 C.2.1 dL_law_2235 (by decide) (fun _ => ?_) (fun h => absurd he.1 h)
  refine lv_iload C.1 C.2.1 dL_law_2240 (lv_at hl 1 rfl) ?_
  refine lv_if_ne (tgt := 2264) C.1 C.2.1 dL_law_2242 (by decide) (fun _ => (by refine lv_goto (tgt := 3262) C.1 C.2.1 dL_law_2264 (by decide) ?_; exact K _ _ _ _ _ _ I3 hR' (lv_sub hl [2, 3, 4, 5, 6] rfl))) (fun h => ?_)
  obtain ⟨h1, h2, h3⟩ := he.2 h
  refine lv_aload_n C.1 C.2.1 dL_law_2245 rfl (lv_at hl 6 rfl) ?_
  refine lv_iconst (v := 0) C.1 C.2.1 dL_law_2246 (by decide) ?_
  refine va_lald C.1 C.2.1 C.2.2.2.2.2.1 (vaP1 I3.2.2.2) 0 5 rfl rfl vp01 dL_law_2247 ?_
  refine lv_iload C.1 C.2.1 dL_law_2248 (lv_at hl 0 rfl) ?_
  have hb := lb_isReturned e1 h1
  refine lv_if_eq (tgt := 2257) C.1 C.2.1 dL_law_2250 (by decide) (fun h0 => ?_) (fun h0 => ?_)
  · refine lv_lconst (v := 0) C.1 C.2.1 dL_law_2257 (by decide) ?_
    refine W.lcmp C.1 C.2.1 dL_law_2258 ?_
    refine lv_if_eq (tgt := 2264) C.1 C.2.1 dL_law_2259 (by decide) (fun _ => (by refine lv_goto (tgt := 3262) C.1 C.2.1 dL_law_2264 (by decide) ?_; exact K _ _ _ _ _ _ I3 hR' (lv_sub hl [2, 3, 4, 5, 6] rfl))) (fun h => absurd (lg0 (h3.trans (by rw [← h2, h0]; rfl))) h)
  · refine lv_lconst (v := 1) C.1 C.2.1 dL_law_2253 (by decide) ?_
    refine lv_goto (tgt := 2258) C.1 C.2.1 dL_law_2254 (by decide) ?_
    refine W.lcmp C.1 C.2.1 dL_law_2258 ?_
    refine lv_if_eq (tgt := 2264) C.1 C.2.1 dL_law_2259 (by decide) (fun _ => (by refine lv_goto (tgt := 3262) C.1 C.2.1 dL_law_2264 (by decide) ?_; exact K _ _ _ _ _ _ I3 hR' (lv_sub hl [2, 3, 4, 5, 6] rfl))) (fun h => absurd (lg0 (h3.trans (by rw [hb.resolve_left (fun z => h0 (h2.trans z))]; rfl))) h)
set_option maxHeartbeats 4000000 in
set_option maxRecDepth 100000 in
theorem lc_41 (C : LC l Γ p s m b L xs c) (D : LD s ax am o) (I : LI Γ s ax am o σ τ f H locs) (hR : Rl σ τ) {j : Nat} (hj : j + 6 ≤ L ∧ L ≤ 3072) (hl : lv_has ls 9 (LV b ax am o j)) (hcs : cells + 5 ≤ 601024 ∧ slots + 30 ≤ 7293034) {x : Int32} (hx : x.toInt = 41) (K : LK p l e s m b below meth c Γ ax am o Q cells slots j) : W p l e room_1 s m #[Value.ref b] below meth c H locs cells slots Q (F0 m 40 ls [.int x]) := by
  have hcs5 : cells + 5 ≤ 601024 ∧ slots + 30 ≤ 7293034 := hcs
  refine lv_tableIn (off := 2227) (tgt := 2267) C.1 C.2.1 dL_law_40 (by rw [hx]; decide) (by rw [hx]; decide) (by rw [hx]; rfl) (by decide) ?_
  obtain ⟨q, r, τ', e1, e2, hR', hc⟩ := lo_usedDays (xs (j + 1)) hR
  refine lv_aload_n C.1 C.2.1 dL_law_2267 rfl (lv_at hl 2 rfl) ?_
  refine l_rd C I 1 (lv_at hl 1 rfl) (lv_at hl 0 rfl) hj (by decide) rfl dL_law_2268 dL_law_2269 dL_law_2271 dL_law_2272 dL_law_2273 ?_
  refine lv_aload_n C.1 C.2.1 dL_law_2274 rfl (lv_at hl 4 rfl) ?_
  refine lw_s C D I (As := [.ref (ax 0 0), .int (xs (j + 1)), .ref o]) (rest := []) (wL_usedDays l (C.2.2.2.2.2.2.2.2.2.2.2) Γ ax o (xs (j + 1)) σ q e1 (by simpa using hq_of hc)) mz_297 ⟨Nat.le_of_ble_eq_true rfl, Nat.le_of_ble_eq_true rfl⟩ rfl (Nat.le_of_ble_eq_true rfl) hl.1 (by decide) hcs dL_law_2275 (fun k f1 H1 locs1 I1 hk => ?_)
  have he := th_eq (by decide) (by decide) hc hk
  refine lv_istore (lv' := (5, .int k) :: LV b ax am o j) C.1 C.2.1 dL_law_2278 hl (by decide) rfl (fun ls hl => ?_)
  refine lv_aload_n C.1 C.2.1 dL_law_2280 rfl (lv_at hl 4 rfl) ?_
  refine l_rd C I1 1 (lv_at hl 2 rfl) (lv_at hl 1 rfl) hj (by decide) rfl dL_law_2281 dL_law_2282 dL_law_2284 dL_law_2285 dL_law_2286 ?_
  refine lm_i C D I1 (As := [.int (xs (j + 1))]) (rest := []) (w12_usedDays l Γ am (AMs am) (xs (j + 1)) τ r τ' e2) mz_299 rfl ⟨Nat.le_of_ble_eq_true rfl, Nat.le_of_ble_eq_true rfl⟩ rfl (Nat.le_of_ble_eq_true rfl) hl.1 hcs5 dL_law_2287 (fun H2 locs2 I2 => ?_)
  refine lv_istore (lv' := (6, .int r) :: (5, .int k) :: LV b ax am o j) C.1 C.2.1 dL_law_2290 hl (by decide) rfl (fun ls hl => ?_)
  refine lv_aload_n C.1 C.2.1 dL_law_2292 rfl (lv_at hl 5 rfl) ?_
  refine lm_i C D I2 (As := []) (rest := []) (w12_thrown l Γ am (AMs am) τ' (τ' 0 0 0) rfl) mz_161 rfl ⟨Nat.le_of_ble_eq_true rfl, Nat.le_of_ble_eq_true rfl⟩ rfl (Nat.le_of_ble_eq_true rfl) hl.1 hcs5 dL_law_2293 (fun H3 locs3 I3 => ?_)
  refine lv_iload C.1 C.2.1 dL_law_2296 (lv_at hl 1 rfl) ?_
  refine lv_icmp_eq (tgt := 2303) C.1 C.2.1 dL_law_2298 (by decide) (fun _ => ?_) (fun h => absurd he.1 h)
  refine lv_iload C.1 C.2.1 dL_law_2303 (lv_at hl 1 rfl) ?_
  refine lv_if_ne (tgt := 2320) C.1 C.2.1 dL_law_2305 (by decide) (fun _ => (by refine lv_goto (tgt := 3262) C.1 C.2.1 dL_law_2320 (by decide) ?_; exact K _ _ _ _ _ _ I3 hR' (lv_sub hl [2, 3, 4, 5, 6] rfl))) (fun h => ?_)
  obtain ⟨h1, h2, h3⟩ := he.2 h
  refine lv_aload_n C.1 C.2.1 dL_law_2308 rfl (lv_at hl 6 rfl) ?_
  refine lv_iconst (v := 0) C.1 C.2.1 dL_law_2309 (by decide) ?_
  refine va_lald C.1 C.2.1 C.2.2.2.2.2.1 (vaP1 I3.2.2.2) 0 5 rfl rfl vp01 dL_law_2310 ?_
  refine lv_iload C.1 C.2.1 dL_law_2311 (lv_at hl 0 rfl) ?_
  refine lv_i2l C.1 C.2.1 dL_law_2313 rfl ?_
  refine W.lcmp C.1 C.2.1 dL_law_2314 ?_
  refine lv_if_eq (tgt := 2320) C.1 C.2.1 dL_law_2315 (by decide) (fun _ => (by refine lv_goto (tgt := 3262) C.1 C.2.1 dL_law_2320 (by decide) ?_; exact K _ _ _ _ _ _ I3 hR' (lv_sub hl [2, 3, 4, 5, 6] rfl))) (fun h => absurd (lg0 (by rw [h2]; exact h3)) h)
set_option maxHeartbeats 4000000 in
set_option maxRecDepth 100000 in
theorem lc_42 (C : LC l Γ p s m b L xs c) (D : LD s ax am o) (I : LI Γ s ax am o σ τ f H locs) (hR : Rl σ τ) {j : Nat} (hj : j + 6 ≤ L ∧ L ≤ 3072) (hl : lv_has ls 9 (LV b ax am o j)) (hcs : cells + 5 ≤ 601024 ∧ slots + 30 ≤ 7293034) {x : Int32} (hx : x.toInt = 42) (K : LK p l e s m b below meth c Γ ax am o Q cells slots j) : W p l e room_1 s m #[Value.ref b] below meth c H locs cells slots Q (F0 m 40 ls [.int x]) := by
  have hcs5 : cells + 5 ≤ 601024 ∧ slots + 30 ≤ 7293034 := hcs
  refine lv_tableIn (off := 2283) (tgt := 2323) C.1 C.2.1 dL_law_40 (by rw [hx]; decide) (by rw [hx]; decide) (by rw [hx]; rfl) (by decide) ?_
  obtain ⟨q, r, τ', e1, e2, hR', hc⟩ := lo_visitsWith (xs (j + 1)) hR
  refine lv_aload_n C.1 C.2.1 dL_law_2323 rfl (lv_at hl 2 rfl) ?_
  refine l_rd C I 1 (lv_at hl 1 rfl) (lv_at hl 0 rfl) hj (by decide) rfl dL_law_2324 dL_law_2325 dL_law_2327 dL_law_2328 dL_law_2329 ?_
  refine lv_aload_n C.1 C.2.1 dL_law_2330 rfl (lv_at hl 4 rfl) ?_
  refine lw_s C D I (As := [.ref (ax 0 0), .int (xs (j + 1)), .ref o]) (rest := []) (wL_visitsWith l (C.2.2.2.2.2.2.2.2.2.2.2) Γ ax o (xs (j + 1)) σ q e1 (by simpa using hq_of hc)) mz_300 ⟨Nat.le_of_ble_eq_true rfl, Nat.le_of_ble_eq_true rfl⟩ rfl (Nat.le_of_ble_eq_true rfl) hl.1 (by decide) hcs dL_law_2331 (fun k f1 H1 locs1 I1 hk => ?_)
  have he := th_eq (by decide) (by decide) hc hk
  refine lv_istore (lv' := (5, .int k) :: LV b ax am o j) C.1 C.2.1 dL_law_2334 hl (by decide) rfl (fun ls hl => ?_)
  refine lv_aload_n C.1 C.2.1 dL_law_2336 rfl (lv_at hl 4 rfl) ?_
  refine l_rd C I1 1 (lv_at hl 2 rfl) (lv_at hl 1 rfl) hj (by decide) rfl dL_law_2337 dL_law_2338 dL_law_2340 dL_law_2341 dL_law_2342 ?_
  refine lm_i C D I1 (As := [.int (xs (j + 1))]) (rest := []) (w12_visitsWith l Γ am (AMs am) (xs (j + 1)) τ r τ' e2) mz_302 rfl ⟨Nat.le_of_ble_eq_true rfl, Nat.le_of_ble_eq_true rfl⟩ rfl (Nat.le_of_ble_eq_true rfl) hl.1 hcs5 dL_law_2343 (fun H2 locs2 I2 => ?_)
  refine lv_istore (lv' := (6, .int r) :: (5, .int k) :: LV b ax am o j) C.1 C.2.1 dL_law_2346 hl (by decide) rfl (fun ls hl => ?_)
  refine lv_aload_n C.1 C.2.1 dL_law_2348 rfl (lv_at hl 5 rfl) ?_
  refine lm_i C D I2 (As := []) (rest := []) (w12_thrown l Γ am (AMs am) τ' (τ' 0 0 0) rfl) mz_161 rfl ⟨Nat.le_of_ble_eq_true rfl, Nat.le_of_ble_eq_true rfl⟩ rfl (Nat.le_of_ble_eq_true rfl) hl.1 hcs5 dL_law_2349 (fun H3 locs3 I3 => ?_)
  refine lv_iload C.1 C.2.1 dL_law_2352 (lv_at hl 1 rfl) ?_
  refine lv_icmp_eq (tgt := 2359) C.1 C.2.1 dL_law_2354 (by decide) (fun _ => ?_) (fun h => absurd he.1 h)
  refine lv_iload C.1 C.2.1 dL_law_2359 (lv_at hl 1 rfl) ?_
  refine lv_if_ne (tgt := 2376) C.1 C.2.1 dL_law_2361 (by decide) (fun _ => (by refine lv_goto (tgt := 3262) C.1 C.2.1 dL_law_2376 (by decide) ?_; exact K _ _ _ _ _ _ I3 hR' (lv_sub hl [2, 3, 4, 5, 6] rfl))) (fun h => ?_)
  obtain ⟨h1, h2, h3⟩ := he.2 h
  refine lv_aload_n C.1 C.2.1 dL_law_2364 rfl (lv_at hl 6 rfl) ?_
  refine lv_iconst (v := 0) C.1 C.2.1 dL_law_2365 (by decide) ?_
  refine va_lald C.1 C.2.1 C.2.2.2.2.2.1 (vaP1 I3.2.2.2) 0 5 rfl rfl vp01 dL_law_2366 ?_
  refine lv_iload C.1 C.2.1 dL_law_2367 (lv_at hl 0 rfl) ?_
  refine lv_i2l C.1 C.2.1 dL_law_2369 rfl ?_
  refine W.lcmp C.1 C.2.1 dL_law_2370 ?_
  refine lv_if_eq (tgt := 2376) C.1 C.2.1 dL_law_2371 (by decide) (fun _ => (by refine lv_goto (tgt := 3262) C.1 C.2.1 dL_law_2376 (by decide) ?_; exact K _ _ _ _ _ _ I3 hR' (lv_sub hl [2, 3, 4, 5, 6] rfl))) (fun h => absurd (lg0 (by rw [h2]; exact h3)) h)
set_option maxHeartbeats 4000000 in
set_option maxRecDepth 100000 in
theorem lc_43 (C : LC l Γ p s m b L xs c) (D : LD s ax am o) (I : LI Γ s ax am o σ τ f H locs) (hR : Rl σ τ) {j : Nat} (hj : j + 6 ≤ L ∧ L ≤ 3072) (hl : lv_has ls 9 (LV b ax am o j)) (hcs : cells + 5 ≤ 601024 ∧ slots + 30 ≤ 7293034) {x : Int32} (hx : x.toInt = 43) (K : LK p l e s m b below meth c Γ ax am o Q cells slots j) : W p l e room_1 s m #[Value.ref b] below meth c H locs cells slots Q (F0 m 40 ls [.int x]) := by
  have hcs5 : cells + 5 ≤ 601024 ∧ slots + 30 ≤ 7293034 := hcs
  refine lv_tableIn (off := 2339) (tgt := 2379) C.1 C.2.1 dL_law_40 (by rw [hx]; decide) (by rw [hx]; decide) (by rw [hx]; rfl) (by decide) ?_
  obtain ⟨q, r, τ', e1, e2, hR', hc⟩ := lo_refundOf (xs (j + 1)) hR
  refine lv_aload_n C.1 C.2.1 dL_law_2379 rfl (lv_at hl 2 rfl) ?_
  refine l_rd C I 1 (lv_at hl 1 rfl) (lv_at hl 0 rfl) hj (by decide) rfl dL_law_2380 dL_law_2381 dL_law_2383 dL_law_2384 dL_law_2385 ?_
  refine lv_aload_n C.1 C.2.1 dL_law_2386 rfl (lv_at hl 4 rfl) ?_
  refine lw_s C D I (As := [.ref (ax 0 0), .int (xs (j + 1)), .ref o]) (rest := []) (wL_refundOf l (C.2.2.2.2.2.2.2.2.2.2.2) Γ ax o (xs (j + 1)) σ q e1 (by simpa using hq_of hc)) mz_303 ⟨Nat.le_of_ble_eq_true rfl, Nat.le_of_ble_eq_true rfl⟩ rfl (Nat.le_of_ble_eq_true rfl) hl.1 (by decide) hcs dL_law_2387 (fun k f1 H1 locs1 I1 hk => ?_)
  have he := th_eq (by decide) (by decide) hc hk
  refine lv_istore (lv' := (5, .int k) :: LV b ax am o j) C.1 C.2.1 dL_law_2390 hl (by decide) rfl (fun ls hl => ?_)
  refine lv_aload_n C.1 C.2.1 dL_law_2392 rfl (lv_at hl 4 rfl) ?_
  refine l_rd C I1 1 (lv_at hl 2 rfl) (lv_at hl 1 rfl) hj (by decide) rfl dL_law_2393 dL_law_2394 dL_law_2396 dL_law_2397 dL_law_2398 ?_
  refine lm_i C D I1 (As := [.int (xs (j + 1))]) (rest := []) (w12_refundOf l Γ am (AMs am) (xs (j + 1)) τ r τ' e2) mz_305 rfl ⟨Nat.le_of_ble_eq_true rfl, Nat.le_of_ble_eq_true rfl⟩ rfl (Nat.le_of_ble_eq_true rfl) hl.1 hcs5 dL_law_2399 (fun H2 locs2 I2 => ?_)
  refine lv_istore (lv' := (6, .int r) :: (5, .int k) :: LV b ax am o j) C.1 C.2.1 dL_law_2402 hl (by decide) rfl (fun ls hl => ?_)
  refine lv_aload_n C.1 C.2.1 dL_law_2404 rfl (lv_at hl 5 rfl) ?_
  refine lm_i C D I2 (As := []) (rest := []) (w12_thrown l Γ am (AMs am) τ' (τ' 0 0 0) rfl) mz_161 rfl ⟨Nat.le_of_ble_eq_true rfl, Nat.le_of_ble_eq_true rfl⟩ rfl (Nat.le_of_ble_eq_true rfl) hl.1 hcs5 dL_law_2405 (fun H3 locs3 I3 => ?_)
  refine lv_iload C.1 C.2.1 dL_law_2408 (lv_at hl 1 rfl) ?_
  refine lv_icmp_eq (tgt := 2415) C.1 C.2.1 dL_law_2410 (by decide) (fun _ => ?_) (fun h => absurd he.1 h)
  refine lv_iload C.1 C.2.1 dL_law_2415 (lv_at hl 1 rfl) ?_
  refine lv_if_ne (tgt := 2432) C.1 C.2.1 dL_law_2417 (by decide) (fun _ => (by refine lv_goto (tgt := 3262) C.1 C.2.1 dL_law_2432 (by decide) ?_; exact K _ _ _ _ _ _ I3 hR' (lv_sub hl [2, 3, 4, 5, 6] rfl))) (fun h => ?_)
  obtain ⟨h1, h2, h3⟩ := he.2 h
  refine lv_aload_n C.1 C.2.1 dL_law_2420 rfl (lv_at hl 6 rfl) ?_
  refine lv_iconst (v := 0) C.1 C.2.1 dL_law_2421 (by decide) ?_
  refine va_lald C.1 C.2.1 C.2.2.2.2.2.1 (vaP1 I3.2.2.2) 0 5 rfl rfl vp01 dL_law_2422 ?_
  refine lv_iload C.1 C.2.1 dL_law_2423 (lv_at hl 0 rfl) ?_
  refine lv_i2l C.1 C.2.1 dL_law_2425 rfl ?_
  refine W.lcmp C.1 C.2.1 dL_law_2426 ?_
  refine lv_if_eq (tgt := 2432) C.1 C.2.1 dL_law_2427 (by decide) (fun _ => (by refine lv_goto (tgt := 3262) C.1 C.2.1 dL_law_2432 (by decide) ?_; exact K _ _ _ _ _ _ I3 hR' (lv_sub hl [2, 3, 4, 5, 6] rfl))) (fun h => absurd (lg0 (by rw [h2]; exact h3)) h)
set_option maxHeartbeats 4000000 in
set_option maxRecDepth 100000 in
theorem lc_44 (C : LC l Γ p s m b L xs c) (D : LD s ax am o) (I : LI Γ s ax am o σ τ f H locs) (hR : Rl σ τ) {j : Nat} (hj : j + 6 ≤ L ∧ L ≤ 3072) (hl : lv_has ls 9 (LV b ax am o j)) (hcs : cells + 5 ≤ 601024 ∧ slots + 30 ≤ 7293034) {x : Int32} (hx : x.toInt = 44) (K : LK p l e s m b below meth c Γ ax am o Q cells slots j) : W p l e room_1 s m #[Value.ref b] below meth c H locs cells slots Q (F0 m 40 ls [.int x]) := by
  have hcs5 : cells + 5 ≤ 601024 ∧ slots + 30 ≤ 7293034 := hcs
  refine lv_tableIn (off := 2395) (tgt := 2435) C.1 C.2.1 dL_law_40 (by rw [hx]; decide) (by rw [hx]; decide) (by rw [hx]; rfl) (by decide) ?_
  obtain ⟨q, r, τ', e1, e2, hR', hc⟩ := lo_owed (xs (j + 1)) hR
  refine lv_aload_n C.1 C.2.1 dL_law_2435 rfl (lv_at hl 2 rfl) ?_
  refine l_rd C I 1 (lv_at hl 1 rfl) (lv_at hl 0 rfl) hj (by decide) rfl dL_law_2436 dL_law_2437 dL_law_2439 dL_law_2440 dL_law_2441 ?_
  refine lv_aload_n C.1 C.2.1 dL_law_2442 rfl (lv_at hl 4 rfl) ?_
  refine lw_s C D I (As := [.ref (ax 0 0), .int (xs (j + 1)), .ref o]) (rest := []) (wL_owed l (C.2.2.2.2.2.2.2.2.2.2.2) Γ ax o (xs (j + 1)) σ q e1 (by simpa using hq_of hc)) mz_306 ⟨Nat.le_of_ble_eq_true rfl, Nat.le_of_ble_eq_true rfl⟩ rfl (Nat.le_of_ble_eq_true rfl) hl.1 (by decide) hcs dL_law_2443 (fun k f1 H1 locs1 I1 hk => ?_)
  have he := th_eq (by decide) (by decide) hc hk
  refine lv_istore (lv' := (5, .int k) :: LV b ax am o j) C.1 C.2.1 dL_law_2446 hl (by decide) rfl (fun ls hl => ?_)
  refine lv_aload_n C.1 C.2.1 dL_law_2448 rfl (lv_at hl 4 rfl) ?_
  refine l_rd C I1 1 (lv_at hl 2 rfl) (lv_at hl 1 rfl) hj (by decide) rfl dL_law_2449 dL_law_2450 dL_law_2452 dL_law_2453 dL_law_2454 ?_
  refine lm_i C D I1 (As := [.int (xs (j + 1))]) (rest := []) (w12_owed l Γ am (AMs am) (xs (j + 1)) τ r τ' e2) mz_308 rfl ⟨Nat.le_of_ble_eq_true rfl, Nat.le_of_ble_eq_true rfl⟩ rfl (Nat.le_of_ble_eq_true rfl) hl.1 hcs5 dL_law_2455 (fun H2 locs2 I2 => ?_)
  refine lv_istore (lv' := (6, .int r) :: (5, .int k) :: LV b ax am o j) C.1 C.2.1 dL_law_2458 hl (by decide) rfl (fun ls hl => ?_)
  refine lv_aload_n C.1 C.2.1 dL_law_2460 rfl (lv_at hl 5 rfl) ?_
  refine lm_i C D I2 (As := []) (rest := []) (w12_thrown l Γ am (AMs am) τ' (τ' 0 0 0) rfl) mz_161 rfl ⟨Nat.le_of_ble_eq_true rfl, Nat.le_of_ble_eq_true rfl⟩ rfl (Nat.le_of_ble_eq_true rfl) hl.1 hcs5 dL_law_2461 (fun H3 locs3 I3 => ?_)
  refine lv_iload C.1 C.2.1 dL_law_2464 (lv_at hl 1 rfl) ?_
  refine lv_icmp_eq (tgt := 2471) C.1 C.2.1 dL_law_2466 (by decide) (fun _ => ?_) (fun h => absurd he.1 h)
  refine lv_iload C.1 C.2.1 dL_law_2471 (lv_at hl 1 rfl) ?_
  refine lv_if_ne (tgt := 2488) C.1 C.2.1 dL_law_2473 (by decide) (fun _ => (by refine lv_goto (tgt := 3262) C.1 C.2.1 dL_law_2488 (by decide) ?_; exact K _ _ _ _ _ _ I3 hR' (lv_sub hl [2, 3, 4, 5, 6] rfl))) (fun h => ?_)
  obtain ⟨h1, h2, h3⟩ := he.2 h
  refine lv_aload_n C.1 C.2.1 dL_law_2476 rfl (lv_at hl 6 rfl) ?_
  refine lv_iconst (v := 0) C.1 C.2.1 dL_law_2477 (by decide) ?_
  refine va_lald C.1 C.2.1 C.2.2.2.2.2.1 (vaP1 I3.2.2.2) 0 5 rfl rfl vp01 dL_law_2478 ?_
  refine lv_iload C.1 C.2.1 dL_law_2479 (lv_at hl 0 rfl) ?_
  refine lv_i2l C.1 C.2.1 dL_law_2481 rfl ?_
  refine W.lcmp C.1 C.2.1 dL_law_2482 ?_
  refine lv_if_eq (tgt := 2488) C.1 C.2.1 dL_law_2483 (by decide) (fun _ => (by refine lv_goto (tgt := 3262) C.1 C.2.1 dL_law_2488 (by decide) ?_; exact K _ _ _ _ _ _ I3 hR' (lv_sub hl [2, 3, 4, 5, 6] rfl))) (fun h => absurd (lg0 (by rw [h2]; exact h3)) h)
set_option maxHeartbeats 4000000 in
set_option maxRecDepth 100000 in
theorem lc_45 (C : LC l Γ p s m b L xs c) (D : LD s ax am o) (I : LI Γ s ax am o σ τ f H locs) (hR : Rl σ τ) {j : Nat} (hj : j + 6 ≤ L ∧ L ≤ 3072) (hl : lv_has ls 9 (LV b ax am o j)) (hcs : cells + 5 ≤ 601024 ∧ slots + 30 ≤ 7293034) {x : Int32} (hx : x.toInt = 45) (K : LK p l e s m b below meth c Γ ax am o Q cells slots j) : W p l e room_1 s m #[Value.ref b] below meth c H locs cells slots Q (F0 m 40 ls [.int x]) := by
  have hcs5 : cells + 5 ≤ 601024 ∧ slots + 30 ≤ 7293034 := hcs
  refine lv_tableIn (off := 2451) (tgt := 2491) C.1 C.2.1 dL_law_40 (by rw [hx]; decide) (by rw [hx]; decide) (by rw [hx]; rfl) (by decide) ?_
  obtain ⟨q, r, τ', e1, e2, hR', hc⟩ := lo_ticksUntilReady (xs (j + 1)) hR
  refine lv_aload_n C.1 C.2.1 dL_law_2491 rfl (lv_at hl 2 rfl) ?_
  refine l_rd C I 1 (lv_at hl 1 rfl) (lv_at hl 0 rfl) hj (by decide) rfl dL_law_2492 dL_law_2493 dL_law_2495 dL_law_2496 dL_law_2497 ?_
  refine lv_aload_n C.1 C.2.1 dL_law_2498 rfl (lv_at hl 4 rfl) ?_
  refine lw_s C D I (As := [.ref (ax 0 0), .int (xs (j + 1)), .ref o]) (rest := []) (wL_ticksUntilReady l (C.2.2.2.2.2.2.2.2.2.2.2) Γ ax o (xs (j + 1)) σ q e1 (by simpa using hq_of hc)) mz_309 ⟨Nat.le_of_ble_eq_true rfl, Nat.le_of_ble_eq_true rfl⟩ rfl (Nat.le_of_ble_eq_true rfl) hl.1 (by decide) hcs dL_law_2499 (fun k f1 H1 locs1 I1 hk => ?_)
  have he := th_eq (by decide) (by decide) hc hk
  refine lv_istore (lv' := (5, .int k) :: LV b ax am o j) C.1 C.2.1 dL_law_2502 hl (by decide) rfl (fun ls hl => ?_)
  refine lv_aload_n C.1 C.2.1 dL_law_2504 rfl (lv_at hl 4 rfl) ?_
  refine l_rd C I1 1 (lv_at hl 2 rfl) (lv_at hl 1 rfl) hj (by decide) rfl dL_law_2505 dL_law_2506 dL_law_2508 dL_law_2509 dL_law_2510 ?_
  refine lm_i C D I1 (As := [.int (xs (j + 1))]) (rest := []) (w12_ticksUntilReady l Γ am (AMs am) (xs (j + 1)) τ r τ' e2) mz_311 rfl ⟨Nat.le_of_ble_eq_true rfl, Nat.le_of_ble_eq_true rfl⟩ rfl (Nat.le_of_ble_eq_true rfl) hl.1 hcs5 dL_law_2511 (fun H2 locs2 I2 => ?_)
  refine lv_istore (lv' := (6, .int r) :: (5, .int k) :: LV b ax am o j) C.1 C.2.1 dL_law_2514 hl (by decide) rfl (fun ls hl => ?_)
  refine lv_aload_n C.1 C.2.1 dL_law_2516 rfl (lv_at hl 5 rfl) ?_
  refine lm_i C D I2 (As := []) (rest := []) (w12_thrown l Γ am (AMs am) τ' (τ' 0 0 0) rfl) mz_161 rfl ⟨Nat.le_of_ble_eq_true rfl, Nat.le_of_ble_eq_true rfl⟩ rfl (Nat.le_of_ble_eq_true rfl) hl.1 hcs5 dL_law_2517 (fun H3 locs3 I3 => ?_)
  refine lv_iload C.1 C.2.1 dL_law_2520 (lv_at hl 1 rfl) ?_
  refine lv_icmp_eq (tgt := 2527) C.1 C.2.1 dL_law_2522 (by decide) (fun _ => ?_) (fun h => absurd he.1 h)
  refine lv_iload C.1 C.2.1 dL_law_2527 (lv_at hl 1 rfl) ?_
  refine lv_if_ne (tgt := 2544) C.1 C.2.1 dL_law_2529 (by decide) (fun _ => (by refine lv_goto (tgt := 3262) C.1 C.2.1 dL_law_2544 (by decide) ?_; exact K _ _ _ _ _ _ I3 hR' (lv_sub hl [2, 3, 4, 5, 6] rfl))) (fun h => ?_)
  obtain ⟨h1, h2, h3⟩ := he.2 h
  refine lv_aload_n C.1 C.2.1 dL_law_2532 rfl (lv_at hl 6 rfl) ?_
  refine lv_iconst (v := 0) C.1 C.2.1 dL_law_2533 (by decide) ?_
  refine va_lald C.1 C.2.1 C.2.2.2.2.2.1 (vaP1 I3.2.2.2) 0 5 rfl rfl vp01 dL_law_2534 ?_
  refine lv_iload C.1 C.2.1 dL_law_2535 (lv_at hl 0 rfl) ?_
  refine lv_i2l C.1 C.2.1 dL_law_2537 rfl ?_
  refine W.lcmp C.1 C.2.1 dL_law_2538 ?_
  refine lv_if_eq (tgt := 2544) C.1 C.2.1 dL_law_2539 (by decide) (fun _ => (by refine lv_goto (tgt := 3262) C.1 C.2.1 dL_law_2544 (by decide) ?_; exact K _ _ _ _ _ _ I3 hR' (lv_sub hl [2, 3, 4, 5, 6] rfl))) (fun h => absurd (lg0 (by rw [h2]; exact h3)) h)
set_option maxHeartbeats 4000000 in
set_option maxRecDepth 100000 in
theorem lc_46 (C : LC l Γ p s m b L xs c) (D : LD s ax am o) (I : LI Γ s ax am o σ τ f H locs) (hR : Rl σ τ) {j : Nat} (hj : j + 6 ≤ L ∧ L ≤ 3072) (hl : lv_has ls 9 (LV b ax am o j)) (hcs : cells + 5 ≤ 601024 ∧ slots + 30 ≤ 7293034) {x : Int32} (hx : x.toInt = 46) (K : LK p l e s m b below meth c Γ ax am o Q cells slots j) : W p l e room_1 s m #[Value.ref b] below meth c H locs cells slots Q (F0 m 40 ls [.int x]) := by
  refine lv_tableIn (off := 2507) (tgt := 2547) C.1 C.2.1 dL_law_40 (by rw [hx]; decide) (by rw [hx]; decide) (by rw [hx]; rfl) (by decide) ?_
  obtain ⟨r, τ', e1, e2, hR'⟩ := lo_cardCount hR
  refine lv_aload_n C.1 C.2.1 dL_law_2547 rfl (lv_at hl 2 rfl) ?_
  refine lx_i C D I (As := []) (rest := []) (w11_cardCount l Γ ax (AXs ax) σ r e1) mz_312 rfl ⟨Nat.le_of_ble_eq_true rfl, Nat.le_of_ble_eq_true rfl⟩ rfl (Nat.le_of_ble_eq_true rfl) hl.1 ⟨by omega, by omega⟩ dL_law_2548 (fun H1 locs1 I1 => ?_)
  refine lv_aload_n C.1 C.2.1 dL_law_2551 rfl (lv_at hl 3 rfl) ?_
  refine lm_i C D I1 (As := []) (rest := [.int r]) (w12_cardCount l Γ am (AMs am) τ r τ' e2) mz_315 rfl ⟨Nat.le_of_ble_eq_true rfl, Nat.le_of_ble_eq_true rfl⟩ rfl (Nat.le_of_ble_eq_true rfl) hl.1 ⟨by omega, by omega⟩ dL_law_2552 (fun H2 locs2 I2 => ?_)
  refine lv_icmp_eq (tgt := 3262) C.1 C.2.1 dL_law_2555 (by decide) (fun _ => ?_) (fun h => absurd rfl h)
  refine W.widen (k := cells + 5) (n := slots + 30) (by omega) (by omega) ?_
  exact K _ _ _ _ _ _ I2 hR' hl
set_option maxHeartbeats 4000000 in
set_option maxRecDepth 100000 in
theorem lc_47 (C : LC l Γ p s m b L xs c) (D : LD s ax am o) (I : LI Γ s ax am o σ τ f H locs) (hR : Rl σ τ) {j : Nat} (hj : j + 6 ≤ L ∧ L ≤ 3072) (hl : lv_has ls 9 (LV b ax am o j)) (hcs : cells + 5 ≤ 601024 ∧ slots + 30 ≤ 7293034) {x : Int32} (hx : x.toInt = 47) (K : LK p l e s m b below meth c Γ ax am o Q cells slots j) : W p l e room_1 s m #[Value.ref b] below meth c H locs cells slots Q (F0 m 40 ls [.int x]) := by
  have hcs5 : cells + 5 ≤ 601024 ∧ slots + 30 ≤ 7293034 := hcs
  refine lv_tableIn (off := 2520) (tgt := 2560) C.1 C.2.1 dL_law_40 (by rw [hx]; decide) (by rw [hx]; decide) (by rw [hx]; rfl) (by decide) ?_
  obtain ⟨q, r, τ', e1, e2, hR', hc⟩ := lo_passOf (xs (j + 1)) hR
  refine lv_aload_n C.1 C.2.1 dL_law_2560 rfl (lv_at hl 2 rfl) ?_
  refine l_rd C I 1 (lv_at hl 1 rfl) (lv_at hl 0 rfl) hj (by decide) rfl dL_law_2561 dL_law_2562 dL_law_2564 dL_law_2565 dL_law_2566 ?_
  refine lv_aload_n C.1 C.2.1 dL_law_2567 rfl (lv_at hl 4 rfl) ?_
  refine lw_s C D I (As := [.ref (ax 0 0), .int (xs (j + 1)), .ref o]) (rest := []) (wL_passOf l (C.2.2.2.2.2.2.2.2.2.2.2) Γ ax o (xs (j + 1)) σ q e1 (by simpa using hq_of hc)) mz_316 ⟨Nat.le_of_ble_eq_true rfl, Nat.le_of_ble_eq_true rfl⟩ rfl (Nat.le_of_ble_eq_true rfl) hl.1 (by decide) hcs dL_law_2568 (fun k f1 H1 locs1 I1 hk => ?_)
  have he := th_eq (by decide) (by decide) hc hk
  refine lv_istore (lv' := (5, .int k) :: LV b ax am o j) C.1 C.2.1 dL_law_2571 hl (by decide) rfl (fun ls hl => ?_)
  refine lv_aload_n C.1 C.2.1 dL_law_2573 rfl (lv_at hl 4 rfl) ?_
  refine l_rd C I1 1 (lv_at hl 2 rfl) (lv_at hl 1 rfl) hj (by decide) rfl dL_law_2574 dL_law_2575 dL_law_2577 dL_law_2578 dL_law_2579 ?_
  refine lm_i C D I1 (As := [.int (xs (j + 1))]) (rest := []) (w12_passOf l Γ am (AMs am) (xs (j + 1)) τ r τ' e2) mz_318 rfl ⟨Nat.le_of_ble_eq_true rfl, Nat.le_of_ble_eq_true rfl⟩ rfl (Nat.le_of_ble_eq_true rfl) hl.1 hcs5 dL_law_2580 (fun H2 locs2 I2 => ?_)
  refine lv_istore (lv' := (6, .int r) :: (5, .int k) :: LV b ax am o j) C.1 C.2.1 dL_law_2583 hl (by decide) rfl (fun ls hl => ?_)
  refine lv_aload_n C.1 C.2.1 dL_law_2585 rfl (lv_at hl 5 rfl) ?_
  refine lm_i C D I2 (As := []) (rest := []) (w12_thrown l Γ am (AMs am) τ' (τ' 0 0 0) rfl) mz_161 rfl ⟨Nat.le_of_ble_eq_true rfl, Nat.le_of_ble_eq_true rfl⟩ rfl (Nat.le_of_ble_eq_true rfl) hl.1 hcs5 dL_law_2586 (fun H3 locs3 I3 => ?_)
  refine lv_iload C.1 C.2.1 dL_law_2589 (lv_at hl 1 rfl) ?_
  refine lv_icmp_eq (tgt := 2596) C.1 C.2.1 dL_law_2591 (by decide) (fun _ => ?_) (fun h => absurd he.1 h)
  refine lv_iload C.1 C.2.1 dL_law_2596 (lv_at hl 1 rfl) ?_
  refine lv_if_ne (tgt := 2613) C.1 C.2.1 dL_law_2598 (by decide) (fun _ => (by refine lv_goto (tgt := 3262) C.1 C.2.1 dL_law_2613 (by decide) ?_; exact K _ _ _ _ _ _ I3 hR' (lv_sub hl [2, 3, 4, 5, 6] rfl))) (fun h => ?_)
  obtain ⟨h1, h2, h3⟩ := he.2 h
  refine lv_aload_n C.1 C.2.1 dL_law_2601 rfl (lv_at hl 6 rfl) ?_
  refine lv_iconst (v := 0) C.1 C.2.1 dL_law_2602 (by decide) ?_
  refine va_lald C.1 C.2.1 C.2.2.2.2.2.1 (vaP1 I3.2.2.2) 0 5 rfl rfl vp01 dL_law_2603 ?_
  refine lv_iload C.1 C.2.1 dL_law_2604 (lv_at hl 0 rfl) ?_
  refine lv_i2l C.1 C.2.1 dL_law_2606 rfl ?_
  refine W.lcmp C.1 C.2.1 dL_law_2607 ?_
  refine lv_if_eq (tgt := 2613) C.1 C.2.1 dL_law_2608 (by decide) (fun _ => (by refine lv_goto (tgt := 3262) C.1 C.2.1 dL_law_2613 (by decide) ?_; exact K _ _ _ _ _ _ I3 hR' (lv_sub hl [2, 3, 4, 5, 6] rfl))) (fun h => absurd (lg0 (by rw [h2]; exact h3)) h)
end LWC
