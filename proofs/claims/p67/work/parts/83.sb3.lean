/-! printed: StringBuilder's append(String), constructor, length, charAt -/
theorem MWv.call0 {R : Room} {s : State} {args : Array Value} {own : String} {index maxL n fr lo mc ms : Nat} {y : MethodName} {bytes : ByteArray} {ret : Option FieldType} (htg : ∀ w ∈ gw, w.before args s = true) (h : MWv own index y bytes maxL ret n) (hR : fr + 1 ≤ R.frames ∧ 8 + (maxL + 11) + lo ≤ R.locals) : CallW R s args own y.cls index y bytes maxL ret (Wsd y bytes maxL ret) { frames := fr, cells := mc, slots := ms, locals := lo } mc ms n := by
  obtain ⟨h1, h2, h3, h4, h5, h6, h7, h8⟩ := h
  exact ⟨callB_of n htg (gw_cons h5) rfl rfl rfl (htg _ h4) (htg _ h1) ⟨h6, h7, h8⟩ hR, htg _ h2, htg _ h3⟩
/-- a constant's letters -/
def strC (k : Nat) : Nat → Nat := fun j => (strA k j).toInt.toNat
theorem str_l : ∀ k, k < strN → 14 ≤ k → (strB k).length ≤ 6 ∧ 1 ≤ (strB k).length ∧ ∀ j, j < (strB k).length → strC k j < 256 ∧ strA k j = sb_b (strC k j) ∧ fits .byte (.int (strA k j)) = true := by decide +kernel
theorem cpy_hi {f a : Nat → Int32} {n L i : Nat} (h : i < L) : va_cpy f a 0 n L (n + i) = f i := by
  unfold va_cpy
  simp only [show n ≤ n + i ∧ n + i < n + L by omega, and_self, if_true]
  congr 1
  omega
theorem cpy_out {f a : Nat → Int32} {n L j : Nat} (h : j < n) : va_cpy f a 0 n L j = a j := by
  unfold va_cpy
  rw [if_neg]
  omega
set_option maxHeartbeats 4000000 in
theorem q_coder (l : Launch) (Γ : Wc) (N : Nat) (w : va_W) (k : Nat) (hk : k < strN) : MBi l Γ N yJ0_coder_7d493 cJ0_coder_7d493 1 (some .byte) 0 0 [.ref (Γ.2.2.1 k)] w 0 := by
  refine MBi.of (by decide +kernel) (Nat.le_of_ble_eq_true rfl) ?_
  intro p e s m args below meth c ls cb hr hnl hP hD hl
  obtain ⟨⟨hx, hb, hml, hown, htg⟩, hK, hZ, hV, hN, hG⟩ := id cb
  have hS : va_S (AN N) s.heap s.heap [] := va_S.rf
  have hl : lv_has ls 1 [(0, .ref (Γ.2.2.1 k))] := hl
  refine va_gets hx hb hZ.2.2.1 hS hown (htg _ js_cs) (fun _ h => h) dJ0_coder_7d493_0 ?_
  refine lv_if_eq (tgt := 13) hx hb dJ0_coder_7d493_3 (by decide) (fun c1 => False.elim (absurd c1 (by decide))) (fun c1 => ?_)
  refine lv_aload_n hx hb dJ0_coder_7d493_6 rfl (lv_at hl 0 rfl) ?_
  refine vk_getf hx hb (hZ.2.2.2.2 k hk).2.1 hS hown (htg _ js_coder) (fun _ h => h) dJ0_coder_7d493_7 ?_
  refine lv_goto (tgt := 14) hx hb dJ0_coder_7d493_10 (by decide) ?_
  exact W.zret (v := 0) hx hb hr (by decide) (fun t ht hW => ⟨⟨_, (), rfl, rfl, by show va_P Γ.1 vwCl w t.heap; rw [ht]; exact hP⟩, hS.F ht⟩) hS.2.2 dJ0_coder_7d493_14 hnl
set_option maxHeartbeats 4000000 in
theorem q_strlen (l : Launch) (Γ : Wc) (N : Nat) (w : va_W) (k : Nat) (hk : k < strN) : MBi l Γ N yJ0_length_8abf5 cJ0_length_8abf5 1 (some .int) 1 20 [.ref (Γ.2.2.1 k)] w (nI (strB k).length) := by
  refine MBi.of (by decide +kernel) (Nat.le_of_ble_eq_true rfl) ?_
  intro p e s m args below meth c ls cb hr hnl hP hD hl
  obtain ⟨⟨hx, hb, hml, hown, htg⟩, hK, hZ, hV, hN, hG⟩ := id cb
  have hS : va_S (AN N) s.heap s.heap [] := va_S.rf
  have hl : lv_has ls 1 [(0, .ref (Γ.2.2.1 k))] := hl
  refine lv_aload_n hx hb dJ0_length_8abf5_0 rfl (lv_at hl 0 rfl) ?_
  refine vk_getf hx hb (hZ.2.2.2.2 k hk).2.2.1 hS hown (htg _ js_value) (fun _ h => h) dJ0_length_8abf5_1 ?_
  obtain ⟨scr, g1, g2, g3, g4, g5, g6, g7⟩ := id (hZ.2.2.2.2 k hk).2.2.2
  refine W.alen (n := Int32.ofNat (strB k).length) hx hb (by rw [hS.2.1 _ (Array.getElem?_eq_some_iff.mp g1).1 g7]; exact g1) g2 g5 rfl rfl dJ0_length_8abf5_4 ?_
  refine lv_aload_n hx hb dJ0_length_8abf5_5 rfl (lv_at hl 0 rfl) ?_
  refine va_calli (va_runV (As := []) (rest := [.int (Int32.ofNat (strB k).length)]) ⟨hx, hb, hml, hown, htg⟩ (q_coder l Γ N w k hk) (js_mcoder.call0 htg ⟨Nat.le_of_ble_eq_true rfl, Nat.le_of_ble_eq_true rfl⟩) ⟨PB.blind, strRecv cb hS hk, fun U hU hW => ⟨rfl, pbU cb hP hD hS hU hW⟩⟩ rfl rfl hl.1 rfl (lv_room (Nat.le_of_ble_eq_true rfl)) dJ0_length_8abf5_6 ⟨Nat.le_of_ble_eq_true rfl, Nat.le_of_ble_eq_true rfl⟩) hS (fun q _ h => h) (fun q h => h) (fun r u t H locs ht hvm hw hB hz1 hk1 hS => ?_)
  subst hw
  have hP : va_P Γ.1 vwCl w H := by rw [← ht]; exact hB
  refine lv_ishr hx hb dJ0_length_8abf5_9 ?_
  rw [sb_shr0]
  exact W.iret (v := nI (strB k).length) hx hb hr (fun t ht hW => ⟨⟨_, (), rfl, rfl, by show va_P Γ.1 vwCl w t.heap; rw [ht]; exact hP⟩, hS.F ht⟩) hS.2.2 dJ0_length_8abf5_10 hnl
theorem jm_212 : Cond.methodLink RJ0 212 arraycopyName ∈ gw ∧ Cond.native arraycopyName ∈ gw ∧ Cond.static arraycopyName ∈ gw ∧ Cond.initialized "java/lang/System" ∈ gw := ⟨gw_t (tin4 (List.mem_of_getElem? (i := 214) rfl)) rfl, gw_t (tin4 (List.mem_of_getElem? (i := 35) rfl)) rfl, gw_t (tin4 (List.mem_of_getElem? (i := 34) rfl)) rfl, gw_t (tin1 (List.mem_of_getElem? (i := 18) rfl)) rfl⟩
set_option maxHeartbeats 4000000 in
set_option maxRecDepth 100000 in
theorem q_getBytes (l : Launch) (Γ : Wc) (N b v cm : Nat) (ml nn : Int32) (a : Nat → Int32) (n k : Nat) (hk : k < strN) (hk14 : 14 ≤ k) (hm : n + (strB k).length ≤ cm ∧ cm ≤ 130) : MBv l Γ N yJ0_getBytes_840e7 cJ0_getBytes_840e7 4 1 60 0 0 [.ref (Γ.2.2.1 k), .ref v, .int (nI n), .int 0] (wB Γ.2.1 b v cm ml nn a) (fun w1 => w1 = wB Γ.2.1 b v cm ml nn (va_cpy (strA k) a 0 n (strB k).length)) := by
  refine MBv.of (by decide +kernel) (Nat.le_of_ble_eq_true rfl) ?_
  intro p e s m args below meth c ls cb hin hr hnl hP hD hl
  obtain ⟨⟨hx, hb, hml, hown, htg⟩, hK, hZ, hV, hN, hG⟩ := id cb
  have hS : va_S (AN N) s.heap s.heap [] := va_S.rf
  have hl : lv_has ls 4 [(0, .ref (Γ.2.2.1 k)), (1, .ref v), (2, .int (nI n)), (3, .int 0)] := hl
  obtain ⟨s1, s2, s3⟩ := str_l k hk hk14
  refine lv_aload_n hx hb dJ0_getBytes_840e7_0 rfl (lv_at hl 0 rfl) ?_
  refine va_calli (va_runV (As := []) (rest := []) ⟨hx, hb, hml, hown, htg⟩ (q_coder l Γ N (wB Γ.2.1 b v cm ml nn a) k hk) (js_mcoder.call0 htg ⟨Nat.le_of_ble_eq_true rfl, Nat.le_of_ble_eq_true rfl⟩) ⟨PB.blind, strRecv cb hS hk, fun U hU hW => ⟨rfl, pbU cb hP hD hS hU hW⟩⟩ rfl rfl hl.1 rfl (lv_room (Nat.le_of_ble_eq_true rfl)) dJ0_getBytes_840e7_1 ⟨Nat.le_of_ble_eq_true rfl, Nat.le_of_ble_eq_true rfl⟩) hS (fun q _ h => h) (fun q h => h) (fun r u t H locs ht hvm hw hB hz1 hk1 hS => ?_)
  subst hw
  have hP : va_P Γ.1 vwCl (wB Γ.2.1 b v cm ml nn a) H := by rw [← ht]; exact hB
  refine lv_iload_n hx hb dJ0_getBytes_840e7_4 rfl (lv_at hl 3 rfl) ?_
  refine lv_icmp_ne (tgt := 28) hx hb dJ0_getBytes_840e7_5 (by decide) (fun c1 => False.elim (c1 rfl)) (fun c1 => ?_)
  refine lv_aload_n hx hb dJ0_getBytes_840e7_8 rfl (lv_at hl 0 rfl) ?_
  refine vk_getf hx hb (hZ.2.2.2.2 k hk).2.2.1 hS hown (htg _ js_value) (fun _ h => h) dJ0_getBytes_840e7_9 ?_
  refine lv_iconst (v := 0) hx hb dJ0_getBytes_840e7_12 (by decide) ?_
  refine lv_aload_n hx hb dJ0_getBytes_840e7_13 rfl (lv_at hl 1 rfl) ?_
  refine lv_iload_n hx hb dJ0_getBytes_840e7_14 rfl (lv_at hl 2 rfl) ?_
  refine lv_iload_n hx hb dJ0_getBytes_840e7_15 rfl (lv_at hl 3 rfl) ?_
  refine lv_ishl hx hb dJ0_getBytes_840e7_16 ?_
  rw [sb_shl0]
  refine lv_aload_n hx hb dJ0_getBytes_840e7_17 rfl (lv_at hl 0 rfl) ?_
  refine vk_getf hx hb (hZ.2.2.2.2 k hk).2.2.1 hS hown (htg _ js_value) (fun _ h => h) dJ0_getBytes_840e7_18 ?_
  obtain ⟨scr, g1, g2, g3, g4, g5, g6, g7⟩ := id (hZ.2.2.2.2 k hk).2.2.2
  refine W.alen (n := Int32.ofNat (strB k).length) hx hb (by rw [hS.2.1 _ (Array.getElem?_eq_some_iff.mp g1).1 g7]; exact g1) g2 g5 rfl rfl dJ0_getBytes_840e7_21 ?_
  have ec : (Int32.ofNat (strB k).length).toNatClampNeg = (strB k).length := nI_clamp (by omega)
  have en : (nI n).toNatClampNeg = n := nI_clamp (by omega)
  have e0 : (0 : Int32).toNatClampNeg = 0 := rfl
  refine vk_copyt (D := Γ.1) hx hb (by rw [hml, hl.1]) hown (htg _ jm_212.1) (htg _ jm_212.2.1) (htg _ jm_212.2.2.1) (htg _ jm_212.2.2.2) hK hP hD hS (hZ.2.2.2.2 k hk).2.2.2 1 2 rfl rfl (by decide) (nI_pos (by omega)) (nI_pos (n := (strB k).length) (by omega)) (by rw [ec, e0]; omega) (by rw [ec, en]; omega) (fun i hi => by rw [e0, Nat.zero_add]; exact (s3 i (by rw [ec] at hi; exact hi)).2.2) (Nat.le_of_ble_eq_true rfl) (Nat.le_of_ble_eq_true rfl) dJ0_getBytes_840e7_22 (fun H locs hP hD hS => ?_)
  rw [ec, en, e0] at hP hD
  refine lv_goto (tgt := 43) hx hb dJ0_getBytes_840e7_25 (by show ((25 : Nat) : Int) + 18 = ((43 : Nat) : Int); decide) ?_
  exact W.vret hx hb hr (fun t ht hW => ⟨⟨(), rfl, trivial, _, rfl, by rw [ht]; exact hP, hD⟩, hS.F ht⟩) hS.2.2 dJ0_getBytes_840e7_43 hnl
theorem jm_40 : MWv RJ5 40 yJ0_coder_7d493 cJ0_coder_7d493 1 (some .byte) 0 := ⟨gw_t (tin4 (List.mem_of_getElem? (i := 109) rfl)) rfl, gw_t (tin2 (List.mem_of_getElem? (i := 136) rfl)) rfl, gw_t (tin2 (List.mem_of_getElem? (i := 137) rfl)) rfl, gw_t (tin1 (List.mem_of_getElem? (i := 13) rfl)) rfl, gw_t (tin2 (List.mem_of_getElem? (i := 138) rfl)) rfl, by decide, by decide, by decide +kernel⟩
set_option maxHeartbeats 4000000 in
set_option maxRecDepth 100000 in
theorem q_inflIf (l : Launch) (Γ : Wc) (N b v cm : Nat) (ml n : Int32) (a : Nat → Int32) (k : Nat) (hk : k < strN) : MBv l Γ N yJ5_inflateIfNeededFor_a7421 cJ5_inflateIfNeededFor_a7421 2 1 20 0 0 [.ref b, .ref (Γ.2.2.1 k)] (wB Γ.2.1 b v cm ml n a) (fun w1 => w1 = (wB Γ.2.1 b v cm ml n a)) := by
  refine MBv.of (by decide +kernel) (Nat.le_of_ble_eq_true rfl) ?_
  intro p e s m args below meth c ls cb hin hr hnl hP hD hl
  obtain ⟨⟨hx, hb, hml, hown, htg⟩, hK, hZ, hV, hN, hG⟩ := id cb
  have hS : va_S (AN N) s.heap s.heap [] := va_S.rf
  have hl : lv_has ls 2 [(0, .ref b), (1, .ref (Γ.2.2.1 k))] := hl
  refine va_gets hx hb hZ.2.2.1 hS hown (htg _ fb_cs) (fun _ h => h) dJ5_inflateIfNeededFor_a7421_0 ?_
  refine lv_if_eq (tgt := 21) hx hb dJ5_inflateIfNeededFor_a7421_3 (by decide) (fun c1 => False.elim (absurd c1 (by decide))) (fun c1 => ?_)
  refine lv_aload_n hx hb dJ5_inflateIfNeededFor_a7421_6 rfl (lv_at hl 0 rfl) ?_
  refine va_get (D := Γ.1) (ref := RJ5) (ci := 12) (v := .int 0) (C := RJ4) (T := TJ4) (N := 4) hx hb htg inJ4 hown hK hP 0 rfl rfl 1 (by decide) (htg _ fb_22) (fun _ h9 => h9) rfl dJ5_inflateIfNeededFor_a7421_7 ?_
  refine lv_aload_n hx hb dJ5_inflateIfNeededFor_a7421_10 rfl (lv_at hl 1 rfl) ?_
  refine va_calli (va_runV (As := []) (rest := [.int 0]) ⟨hx, hb, hml, hown, htg⟩ (q_coder l Γ N (wB Γ.2.1 b v cm ml n a) k hk) (jm_40.call0 htg ⟨Nat.le_of_ble_eq_true rfl, Nat.le_of_ble_eq_true rfl⟩) ⟨PB.blind, strRecv cb hS hk, fun U hU hW => ⟨rfl, pbU cb hP hD hS hU hW⟩⟩ rfl rfl hl.1 rfl (lv_room (Nat.le_of_ble_eq_true rfl)) dJ5_inflateIfNeededFor_a7421_11 ⟨Nat.le_of_ble_eq_true rfl, Nat.le_of_ble_eq_true rfl⟩) hS (fun q _ h => h) (fun q h => h) (fun r u t H locs ht hvm hw hB hz1 hk1 hS => ?_)
  subst hw
  have hP : va_P Γ.1 vwCl (wB Γ.2.1 b v cm ml n a) H := by rw [← ht]; exact hB
  refine lv_icmp_eq (tgt := 21) hx hb dJ5_inflateIfNeededFor_a7421_14 (by decide) (fun c1 => ?_) (fun c1 => False.elim (c1 rfl))
  exact W.vret hx hb hr (fun t ht hW => ⟨⟨(), rfl, trivial, _, rfl, by rw [ht]; exact hP, hD⟩, hS.F ht⟩) hS.2.2 dJ5_inflateIfNeededFor_a7421_21 hnl
theorem jm_397 : MWp RJ5 397 yJ5_inflateIfNeededFor_a7421 cJ5_inflateIfNeededFor_a7421 2 none 1 := ⟨gw_t (tin4 (List.mem_of_getElem? (i := 187) rfl)) rfl, List.mem_filter.mpr ⟨tin4 (List.mem_of_getElem? (i := 188) rfl), rfl⟩, gw_t (tin4 (List.mem_of_getElem? (i := 189) rfl)) rfl, gw_t (tin1 (List.mem_of_getElem? (i := 27) rfl)) rfl, gw_t (tin4 (List.mem_of_getElem? (i := 190) rfl)) rfl, rfl, by decide +kernel⟩
theorem jm_399 : MWv RJ5 399 yJ0_getBytes_840e7 cJ0_getBytes_840e7 4 none 3 := ⟨gw_t (tin4 (List.mem_of_getElem? (i := 210) rfl)) rfl, gw_t (tin4 (List.mem_of_getElem? (i := 211) rfl)) rfl, gw_t (tin4 (List.mem_of_getElem? (i := 212) rfl)) rfl, gw_t (tin1 (List.mem_of_getElem? (i := 13) rfl)) rfl, gw_t (tin4 (List.mem_of_getElem? (i := 213) rfl)) rfl, by decide, by decide, by decide +kernel⟩
set_option maxHeartbeats 4000000 in
set_option maxRecDepth 100000 in
theorem q_putStr (l : Launch) (Γ : Wc) (N b v cm : Nat) (ml nn : Int32) (a : Nat → Int32) (n k : Nat) (hk : k < strN) (hk14 : 14 ≤ k) (hm : n + (strB k).length ≤ cm ∧ cm ≤ 130) : MBv l Γ N yJ5_putStringAt_47b60 cJ5_putStringAt_47b60 3 2 90 0 0 [.ref b, .int (nI n), .ref (Γ.2.2.1 k)] (wB Γ.2.1 b v cm ml nn a) (fun w1 => w1 = wB Γ.2.1 b v cm ml nn (va_cpy (strA k) a 0 n (strB k).length)) := by
  refine MBv.of (by decide +kernel) (Nat.le_of_ble_eq_true rfl) ?_
  intro p e s m args below meth c ls cb hin hr hnl hP hD hl
  obtain ⟨⟨hx, hb, hml, hown, htg⟩, hK, hZ, hV, hN, hG⟩ := id cb
  have hS : va_S (AN N) s.heap s.heap [] := va_S.rf
  have hl : lv_has ls 3 [(0, .ref b), (1, .int (nI n)), (2, .ref (Γ.2.2.1 k))] := hl
  refine lv_aload_n hx hb dJ5_putStringAt_47b60_0 rfl (lv_at hl 0 rfl) ?_
  refine lv_aload_n hx hb dJ5_putStringAt_47b60_1 rfl (lv_at hl 2 rfl) ?_
  refine va_callv (va_runP (As := [.ref (Γ.2.2.1 k)]) (rest := []) ⟨hx, hb, hml, hown, htg⟩ hV (q_inflIf l Γ N b v cm ml nn a k hk) jm_397 ⟨Nat.le_of_ble_eq_true rfl, Nat.le_of_ble_eq_true rfl⟩ ⟨PB.blind, sb_recv hK hP, fun U hU hW => ⟨rfl, pbU cb hP hD hS hU hW⟩⟩ rfl rfl hl.1 rfl (lv_room (Nat.le_of_ble_eq_true rfl)) dJ5_putStringAt_47b60_2 ⟨Nat.le_of_ble_eq_true rfl, Nat.le_of_ble_eq_true rfl⟩) hS (fun q _ h => h) (fun q h => h) (fun u t H locs ht hvm hw hB hz1 hk1 hS => ?_)
  obtain ⟨w1, rfl, hP, hD⟩ := hB
  rw [ht] at hP
  refine lv_aload_n hx hb dJ5_putStringAt_47b60_5 rfl (lv_at hl 2 rfl) ?_
  refine lv_aload_n hx hb dJ5_putStringAt_47b60_6 rfl (lv_at hl 0 rfl) ?_
  refine va_get (D := Γ.1) (ref := RJ5) (ci := 12) (v := .ref v) (C := RJ4) (T := TJ4) (N := 4) hx hb htg inJ4 hown hK hP 0 rfl rfl 0 (by decide) (htg _ fb_15) (fun _ h9 => h9) rfl dJ5_putStringAt_47b60_7 ?_
  refine lv_iload_n hx hb dJ5_putStringAt_47b60_10 rfl (lv_at hl 1 rfl) ?_
  refine lv_aload_n hx hb dJ5_putStringAt_47b60_11 rfl (lv_at hl 0 rfl) ?_
  refine va_get (D := Γ.1) (ref := RJ5) (ci := 12) (v := .int 0) (C := RJ4) (T := TJ4) (N := 4) hx hb htg inJ4 hown hK hP 0 rfl rfl 1 (by decide) (htg _ fb_22) (fun _ h9 => h9) rfl dJ5_putStringAt_47b60_12 ?_
  refine va_callv (va_runV (As := [.ref v, .int (nI n), .int 0]) (rest := []) ⟨hx, hb, hml, hown, htg⟩ (q_getBytes l Γ N b v cm ml nn a n k hk hk14 hm) (jm_399.call0 htg ⟨Nat.le_of_ble_eq_true rfl, Nat.le_of_ble_eq_true rfl⟩) ⟨PB.blind, strRecv cb hS hk, fun U hU hW => ⟨rfl, pbU cb hP hD hS hU hW⟩⟩ rfl rfl hl.1 rfl (lv_room (Nat.le_of_ble_eq_true rfl)) dJ5_putStringAt_47b60_15 ⟨Nat.le_of_ble_eq_true rfl, Nat.le_of_ble_eq_true rfl⟩) hS (fun q _ h => h) (fun q h => h) (fun u t H locs ht hvm hw hB hz1 hk1 hS => ?_)
  obtain ⟨w1, rfl, hP, hD⟩ := hB
  rw [ht] at hP
  exact W.vret hx hb hr (fun t ht hW => ⟨⟨(), rfl, trivial, _, rfl, by rw [ht]; exact hP, hD⟩, hS.F ht⟩) hS.2.2 dJ5_putStringAt_47b60_18 hnl
theorem jm_32 : MWv RJ5 32 yJ0_length_8abf5 cJ0_length_8abf5 1 (some .int) 0 := ⟨gw_t (tin4 (List.mem_of_getElem? (i := 106) rfl)) rfl, gw_t (tin2 (List.mem_of_getElem? (i := 132) rfl)) rfl, gw_t (tin2 (List.mem_of_getElem? (i := 133) rfl)) rfl, gw_t (tin1 (List.mem_of_getElem? (i := 13) rfl)) rfl, gw_t (tin2 (List.mem_of_getElem? (i := 134) rfl)) rfl, by decide, by decide, by decide +kernel⟩
theorem jm_208 : MWp RJ5 208 yJ5_putStringAt_47b60 cJ5_putStringAt_47b60 3 none 2 := ⟨gw_t (tin4 (List.mem_of_getElem? (i := 183) rfl)) rfl, List.mem_filter.mpr ⟨tin4 (List.mem_of_getElem? (i := 184) rfl), rfl⟩, gw_t (tin4 (List.mem_of_getElem? (i := 185) rfl)) rfl, gw_t (tin1 (List.mem_of_getElem? (i := 27) rfl)) rfl, gw_t (tin4 (List.mem_of_getElem? (i := 186) rfl)) rfl, rfl, by decide +kernel⟩
set_option maxHeartbeats 4000000 in
set_option maxRecDepth 100000 in
theorem q_appendS (l : Launch) (Γ : Wc) (N b v cm : Nat) (ml : Int32) (n : Nat) (a : Nat → Int32) (t : Nat → Nat) (k : Nat) (hk : k < strN) (hk14 : 14 ≤ k) (hm : n ≤ cm ∧ cm ≤ 130 ∧ n + (strB k).length ≤ 64) (hf : sb_Fit a) (hL : sb_Lat t n a) : MBr l Γ N yJ5_append_cf1ce cJ5_append_cf1ce 3 (some (.object RJ5)) 4 125 1 200 [.ref b, .ref (Γ.2.2.1 k)] (wB Γ.2.1 b v cm ml (nI n) a) (fun ra w1 => ra = b ∧ TB Γ.2.1 b (sb_cat t n (strC k)) (n + (strB k).length) w1) := by
  refine MBr.of (by decide +kernel) (Nat.le_of_ble_eq_true rfl) ?_
  intro p e s m args below meth c ls cb hr hnl hP hD hl
  obtain ⟨⟨hx, hb, hml, hown, htg⟩, hK, hZ, hV, hN, hG⟩ := id cb
  have hS : va_S (AN N) s.heap s.heap [] := va_S.rf
  have hl : lv_has ls 3 [(0, .ref b), (1, .ref (Γ.2.2.1 k))] := hl
  obtain ⟨s1, s2, s3⟩ := str_l k hk hk14
  refine lv_aload_n hx hb dJ5_append_cf1ce_0 rfl (lv_at hl 1 rfl) ?_
  refine lv_ifnonnull (tgt := 9) hx hb dJ5_append_cf1ce_1 (by decide) ?_
  refine lv_aload_n hx hb dJ5_append_cf1ce_9 rfl (lv_at hl 1 rfl) ?_
  refine va_calli (va_runV (As := []) (rest := []) ⟨hx, hb, hml, hown, htg⟩ (q_strlen l Γ N (wB Γ.2.1 b v cm ml (nI n) a) k hk) (jm_32.call0 htg ⟨Nat.le_of_ble_eq_true rfl, Nat.le_of_ble_eq_true rfl⟩) ⟨PB.blind, strRecv cb hS hk, fun U hU hW => ⟨rfl, pbU cb hP hD hS hU hW⟩⟩ rfl rfl hl.1 rfl (lv_room (Nat.le_of_ble_eq_true rfl)) dJ5_append_cf1ce_10 ⟨Nat.le_of_ble_eq_true rfl, Nat.le_of_ble_eq_true rfl⟩) hS (fun q _ h => h) (fun q h => h) (fun r u t H locs ht hvm hw hB hz1 hk1 hS => ?_)
  subst hw
  have hP : va_P Γ.1 vwCl (wB Γ.2.1 b v cm ml (nI n) a) H := by rw [← ht]; exact hB
  refine lv_istore_n (lv' := [(2, .int (nI (strB k).length)), (0, .ref b), (1, .ref (Γ.2.2.1 k))]) hx hb dJ5_append_cf1ce_13 rfl hl (by decide) rfl (fun ls hl => ?_)
  refine lv_aload_n hx hb dJ5_append_cf1ce_14 rfl (lv_at hl 1 rfl) ?_
  refine lv_aload_n hx hb dJ5_append_cf1ce_15 rfl (lv_at hl 1 rfl) ?_
  refine va_get (D := Γ.1) (ref := RJ5) (ci := 12) (v := .int (nI n)) (C := RJ4) (T := TJ4) (N := 4) hx hb htg inJ4 hown hK hP 0 rfl rfl 3 (by decide) (htg _ fb_79) (fun _ h9 => h9) rfl dJ5_append_cf1ce_16 ?_
  refine lv_iload_n hx hb dJ5_append_cf1ce_19 rfl (lv_at hl 0 rfl) ?_
  refine lv_iadd hx hb dJ5_append_cf1ce_20 ?_
  rw [nI_add]
  refine va_callv (va_runP (As := [.int (nI (n + (strB k).length))]) (rest := []) ⟨hx, hb, hml, hown, htg⟩ hV (q_ensure l Γ N b v cm ml (nI n) a (n + (strB k).length) (by omega) hf) jm_100 ⟨Nat.le_of_ble_eq_true rfl, Nat.le_of_ble_eq_true rfl⟩ ⟨PB.blind, sb_recv hK hP, fun U hU hW => ⟨rfl, pbU cb hP hD hS hU hW⟩⟩ rfl rfl hl.1 rfl (lv_room (Nat.le_of_ble_eq_true rfl)) dJ5_append_cf1ce_21 ⟨Nat.le_of_ble_eq_true rfl, Nat.le_of_ble_eq_true rfl⟩) hS (fun q _ h => h) (fun q h => h) (fun u t H locs ht hvm hw hB hz1 hk1 hS => ?_)
  obtain ⟨w1, ⟨v, m', a', rfl, hq1, hq2, hq3, hf', ha'⟩, hP, hD⟩ := hB
  rw [ht] at hP
  have hL' := sb_latKeep (a' := a') hL (fun j hj => ha' j (by omega))
  clear hf ha' hL
  have hnm : n ≤ m' := by omega
  clear hq2
  refine lv_aload_n hx hb dJ5_append_cf1ce_24 rfl (lv_at hl 1 rfl) ?_
  refine lv_aload_n hx hb dJ5_append_cf1ce_25 rfl (lv_at hl 1 rfl) ?_
  refine va_get (D := Γ.1) (ref := RJ5) (ci := 12) (v := .int (nI n)) (C := RJ4) (T := TJ4) (N := 4) hx hb htg inJ4 hown hK hP 0 rfl rfl 3 (by decide) (htg _ fb_79) (fun _ h9 => h9) rfl dJ5_append_cf1ce_26 ?_
  refine lv_aload_n hx hb dJ5_append_cf1ce_29 rfl (lv_at hl 2 rfl) ?_
  refine va_callv (va_runP (As := [.int (nI n), .ref (Γ.2.2.1 k)]) (rest := []) ⟨hx, hb, hml, hown, htg⟩ hV (q_putStr l Γ N b v m' ml (nI n) a' n k hk hk14 ⟨hq1, hq3⟩) jm_208 ⟨Nat.le_of_ble_eq_true rfl, Nat.le_of_ble_eq_true rfl⟩ ⟨PB.blind, sb_recv hK hP, fun U hU hW => ⟨rfl, pbU cb hP hD hS hU hW⟩⟩ rfl rfl hl.1 rfl (lv_room (Nat.le_of_ble_eq_true rfl)) dJ5_append_cf1ce_30 ⟨Nat.le_of_ble_eq_true rfl, Nat.le_of_ble_eq_true rfl⟩) hS (fun q _ h => h) (fun q h => h) (fun u t H locs ht hvm hw hB hz1 hk1 hS => ?_)
  obtain ⟨w1, rfl, hP, hD⟩ := hB
  rw [ht] at hP
  refine lv_aload_n hx hb dJ5_append_cf1ce_33 rfl (lv_at hl 1 rfl) ?_
  refine lv_dup hx hb dJ5_append_cf1ce_34 rfl ?_
  refine va_get (D := Γ.1) (ref := RJ5) (ci := 12) (v := .int (nI n)) (C := RJ4) (T := TJ4) (N := 4) hx hb htg inJ4 hown hK hP 0 rfl rfl 3 (by decide) (htg _ fb_79) (fun _ h9 => h9) rfl dJ5_append_cf1ce_35 ?_
  refine lv_iload_n hx hb dJ5_append_cf1ce_38 rfl (lv_at hl 0 rfl) ?_
  refine lv_iadd hx hb dJ5_append_cf1ce_39 ?_
  rw [nI_add]
  refine va_put (D := Γ.1) (ref := RJ5) (ci := 12) (v := .int (nI (n + (strB k).length))) (ty := .int) (C := RJ4) (T := TJ4) (N := 4) hx hb htg inJ4 tyJ4 tyJ4_ok nmJ4 hown hK hP hD hS 0 rfl rfl 3 (by decide) (htg _ fb_79) (fun _ h9 => h9) rfl (by decide +kernel) rfl rfl (Nat.le_of_ble_eq_true rfl) dJ5_append_cf1ce_40 (fun H locs hP hD hS => ?_)
  have hP : va_P Γ.1 vwCl (wB Γ.2.1 b v m' ml (nI (n + (strB k).length)) (va_cpy (strA k) a' 0 n (strB k).length)) H := hP
  have hD : va_D (AN N) (wB Γ.2.1 b v m' ml (nI (n + (strB k).length)) (va_cpy (strA k) a' 0 n (strB k).length)) := hD
  refine lv_aload_n hx hb dJ5_append_cf1ce_43 rfl (lv_at hl 1 rfl) ?_
  have hf9 : sb_Fit (va_cpy (strA k) a' 0 n (strB k).length) := by
    intro j
    unfold va_cpy
    split
    · rename_i q
      exact (s3 _ (by omega)).2.2
    · exact hf' j
  refine W.widen (k := 1) (n := 200) (Nat.le_of_ble_eq_true rfl) (Nat.le_of_ble_eq_true rfl) ?_
  exact W.aret (v := .ref b) hx hb hr (Or.inl ⟨_, rfl⟩) (Or.inr ⟨b, rfl⟩) (fun t ht hW => ⟨⟨(), b, rfl, trivial, _, ⟨rfl, v, m', ml, _, rfl, hq1, hq3, hf9, sb_latPut hL' (fun j hj => cpy_out hj) (fun i hi => ⟨(s3 i hi).1, by rw [cpy_hi hi]; exact (s3 i hi).2.1⟩)⟩, by rw [ht]; exact hP, hD⟩, hS.F ht⟩) hS.2.2 dJ5_append_cf1ce_44 hnl
theorem jm_29 : MWu RJ4 29 yJ5_append_cf1ce cJ5_append_cf1ce 3 (some (.object RJ5)) 1 := ⟨gw_t (tin4 (List.mem_of_getElem? (i := 127) rfl)) rfl, gw_t (tin4 (List.mem_of_getElem? (i := 128) rfl)) rfl, gw_t (tin4 (List.mem_of_getElem? (i := 118) rfl)) rfl, gw_t (tin1 (List.mem_of_getElem? (i := 27) rfl)) rfl, gw_t (tin4 (List.mem_of_getElem? (i := 129) rfl)) rfl, rfl, by decide, by decide +kernel⟩
set_option maxHeartbeats 4000000 in
set_option maxRecDepth 100000 in
theorem q4_appendS (l : Launch) (Γ : Wc) (N b v cm : Nat) (ml : Int32) (n : Nat) (a : Nat → Int32) (t : Nat → Nat) (k : Nat) (hk : k < strN) (hk14 : 14 ≤ k) (hm : n ≤ cm ∧ cm ≤ 130 ∧ n + (strB k).length ≤ 64) (hf : sb_Fit a) (hL : sb_Lat t n a) : MBr l Γ N yJ4_append_15ec4 cJ4_append_15ec4 2 (some (.object RJ4)) 5 155 1 200 [.ref b, .ref (Γ.2.2.1 k)] (wB Γ.2.1 b v cm ml (nI n) a) (fun ra w1 => ra = b ∧ TB Γ.2.1 b (sb_cat t n (strC k)) (n + (strB k).length) w1) := by
  refine MBr.of (by decide +kernel) (Nat.le_of_ble_eq_true rfl) ?_
  intro p e s m args below meth c ls cb hr hnl hP hD hl
  obtain ⟨⟨hx, hb, hml, hown, htg⟩, hK, hZ, hV, hN, hG⟩ := id cb
  have hS : va_S (AN N) s.heap s.heap [] := va_S.rf
  have hl : lv_has ls 2 [(0, .ref b), (1, .ref (Γ.2.2.1 k))] := hl
  refine lv_aload_n hx hb dJ4_append_15ec4_0 rfl (lv_at hl 0 rfl) ?_
  refine lv_aload_n hx hb dJ4_append_15ec4_1 rfl (lv_at hl 1 rfl) ?_
  refine va_callr (va_runZ (As := [.ref (Γ.2.2.1 k)]) (rest := []) (sbAt hK) ⟨hx, hb, hml, hown, htg⟩ (q_appendS l Γ N b v cm ml n a t k hk hk14 hm hf hL) jm_29 ⟨Nat.le_of_ble_eq_true rfl, Nat.le_of_ble_eq_true rfl⟩ ⟨PB.blind, sb_recv hK hP, fun U hU hW => ⟨rfl, pbU cb hP hD hS hU hW⟩⟩ rfl rfl hl.1 rfl (lv_room (Nat.le_of_ble_eq_true rfl)) dJ4_append_15ec4_2 ⟨Nat.le_of_ble_eq_true rfl, Nat.le_of_ble_eq_true rfl⟩) hS (fun q _ h => h) (fun q h => h) (fun u ra t1 H locs ht hvm hw hB hz1 hk1 hS => ?_)
  obtain ⟨w1, ⟨rfl, hT⟩, hP, hD⟩ := hB
  rw [ht] at hP
  refine lv_pop hx hb dJ4_append_15ec4_5 rfl ?_
  refine lv_aload_n hx hb dJ4_append_15ec4_6 rfl (lv_at hl 0 rfl) ?_
  exact W.aret (v := .ref ra) hx hb hr (Or.inl ⟨_, rfl⟩) (Or.inr ⟨ra, rfl⟩) (fun t ht hW => ⟨⟨(), ra, rfl, trivial, w1, ⟨rfl, hT⟩, by rw [ht]; exact hP, hD⟩, hS.F ht⟩) hS.2.2 dJ4_append_15ec4_7 hnl
theorem jm_23 : MWv RJ4 23 yJ4_append_15ec4 cJ4_append_15ec4 2 (some (.object RJ4)) 1 := ⟨gw_t (tin4 (List.mem_of_getElem? (i := 123) rfl)) rfl, gw_t (tin4 (List.mem_of_getElem? (i := 124) rfl)) rfl, gw_t (tin4 (List.mem_of_getElem? (i := 125) rfl)) rfl, gw_t (tin1 (List.mem_of_getElem? (i := 28) rfl)) rfl, gw_t (tin4 (List.mem_of_getElem? (i := 126) rfl)) rfl, by decide, by decide, by decide +kernel⟩
set_option maxHeartbeats 4000000 in
set_option maxRecDepth 100000 in
theorem qb_appendS (l : Launch) (Γ : Wc) (N b v cm : Nat) (ml : Int32) (n : Nat) (a : Nat → Int32) (t : Nat → Nat) (k : Nat) (hk : k < strN) (hk14 : 14 ≤ k) (hm : n ≤ cm ∧ cm ≤ 130 ∧ n + (strB k).length ≤ 64) (hf : sb_Fit a) (hL : sb_Lat t n a) : MBr l Γ N yJ4_append_cf1ce cJ4_append_cf1ce 2 (some (.object RJ5)) 6 185 1 200 [.ref b, .ref (Γ.2.2.1 k)] (wB Γ.2.1 b v cm ml (nI n) a) (fun ra w1 => ra = b ∧ TB Γ.2.1 b (sb_cat t n (strC k)) (n + (strB k).length) w1) := by
  refine MBr.of (by decide +kernel) (Nat.le_of_ble_eq_true rfl) ?_
  intro p e s m args below meth c ls cb hr hnl hP hD hl
  obtain ⟨⟨hx, hb, hml, hown, htg⟩, hK, hZ, hV, hN, hG⟩ := id cb
  have hS : va_S (AN N) s.heap s.heap [] := va_S.rf
  have hl : lv_has ls 2 [(0, .ref b), (1, .ref (Γ.2.2.1 k))] := hl
  refine lv_aload_n hx hb dJ4_append_cf1ce_0 rfl (lv_at hl 0 rfl) ?_
  refine lv_aload_n hx hb dJ4_append_cf1ce_1 rfl (lv_at hl 1 rfl) ?_
  refine va_callr (va_runV (As := [.ref (Γ.2.2.1 k)]) (rest := []) ⟨hx, hb, hml, hown, htg⟩ (q4_appendS l Γ N b v cm ml n a t k hk hk14 hm hf hL) (jm_23.call0 htg ⟨Nat.le_of_ble_eq_true rfl, Nat.le_of_ble_eq_true rfl⟩) ⟨PB.blind, sb_recv hK hP, fun U hU hW => ⟨rfl, pbU cb hP hD hS hU hW⟩⟩ rfl rfl hl.1 rfl (lv_room (Nat.le_of_ble_eq_true rfl)) dJ4_append_cf1ce_2 ⟨Nat.le_of_ble_eq_true rfl, Nat.le_of_ble_eq_true rfl⟩) hS (fun q _ h => h) (fun q h => h) (fun u ra t1 H locs ht hvm hw hB hz1 hk1 hS => ?_)
  obtain ⟨w1, ⟨rfl, hT⟩, hP, hD⟩ := hB
  rw [ht] at hP
  exact W.aret (v := .ref ra) hx hb hr (Or.inl ⟨_, rfl⟩) (Or.inr ⟨ra, rfl⟩) (fun t ht hW => ⟨⟨(), ra, rfl, trivial, w1, ⟨rfl, hT⟩, by rw [ht]; exact hP, hD⟩, hS.F ht⟩) hS.2.2 dJ4_append_cf1ce_5 hnl
theorem jk_38 : Cond.constant RJ5 38 2147483631 ∈ gw := gw_t (tin4 (List.mem_of_getElem? (i := 107) rfl)) rfl
theorem jm_43 {R : Room} {s : State} {args : Array Value} (htg : ∀ w ∈ gw, w.before args s = true) (hR : 6 + 1 ≤ R.frames ∧ 8 + (2 + 11) + 185 ≤ R.locals) : va_CU R s args RJ5 RJ4 RJ5 43 yJ5_append_cf1ce yJ4_append_cf1ce cJ4_append_cf1ce 2 (some (.object RJ5)) (Wsd yJ4_append_cf1ce cJ4_append_cf1ce 2 (some (.object RJ5))) { frames := 6, cells := 1, slots := 200, locals := 185 } 1 200 1 := va_cwO (b0 := cJ5_append_cf1ce) (m0 := 3) (r0 := (some (.object RJ5))) 1 htg (gw_app (a := [.methodLink RJ5 43 yJ5_append_cf1ce, .sameMethod RJ5 RJ5 "append" "(Ljava/lang/String;)Ljava/lang/AbstractStringBuilder;", .instanceMethod yJ5_append_cf1ce, .selects RJ4 yJ5_append_cf1ce yJ4_append_cf1ce, .instanceMethod yJ4_append_cf1ce, .initialized RJ4]) (List.forall_mem_cons.mpr ⟨gw_t (tin4 (List.mem_of_getElem? (i := 117) rfl)) rfl, List.forall_mem_cons.mpr ⟨gw_t (tin4 (List.mem_of_getElem? (i := 119) rfl)) rfl, List.forall_mem_cons.mpr ⟨gw_t (tin4 (List.mem_of_getElem? (i := 118) rfl)) rfl, List.forall_mem_cons.mpr ⟨gw_t (tin4 (List.mem_of_getElem? (i := 120) rfl)) rfl, List.forall_mem_cons.mpr ⟨gw_t (tin4 (List.mem_of_getElem? (i := 121) rfl)) rfl, List.forall_mem_cons.mpr ⟨gw_t (tin1 (List.mem_of_getElem? (i := 28) rfl)) rfl, fun _ h => absurd h List.not_mem_nil⟩⟩⟩⟩⟩⟩) (gw_cons (gw_t (tin4 (List.mem_of_getElem? (i := 122) rfl)) rfl))) rfl rfl rfl (gw_t (tin4 (List.mem_of_getElem? (i := 129) rfl)) rfl) (by decide +kernel) hR
set_option maxHeartbeats 4000000 in
set_option maxRecDepth 100000 in
theorem q_sbInit5 (l : Launch) (Γ : Wc) (N b k : Nat) (hk : k < strN) (hk14 : 14 ≤ k) : MBv l Γ N yJ5_init_a7421 cJ5_init_a7421 5 7 210 2 230 [.ref b, .ref (Γ.2.2.1 k)] [(b, .inr (12, [.null, .int 0, .int 0, .int 0]))] (TB Γ.2.1 b (sb_cat (fun _ => 0) 0 (strC k)) (0 + (strB k).length)) := by
  refine MBv.of (by decide +kernel) (Nat.le_of_ble_eq_true rfl) ?_
  intro p e s m args below meth c ls cb hin hr hnl hP hD hl
  obtain ⟨⟨hx, hb, hml, hown, htg⟩, hK, hZ, hV, hN, hG⟩ := id cb
  have hS : va_S (AN N) s.heap s.heap [] := va_S.rf
  have hl : lv_has ls 5 [(0, .ref b), (1, .ref (Γ.2.2.1 k))] := hl
  have hA : ∀ q : Nat, s.heap.size ≤ q → AN N q := fun q h => Nat.le_trans hN h
  obtain ⟨s1, s2, s3⟩ := str_l k hk hk14
  refine lv_aload_n hx hb dJ5_init_a7421_0 rfl (lv_at hl 0 rfl) ?_
  refine W.objInit hx hb hown (htg (.methodLink RJ5 3 objectInit) (gw_t (tin4 (List.mem_of_getElem? (i := 105) rfl)) rfl)) (htg (.instanceMethod objectInit) (gw_t (tin1 (List.mem_of_getElem? (i := 37) rfl)) rfl)) (htg (.code objectInit ⟨#[0xb1]⟩ 1 none) (gw_t (tin1 (List.mem_of_getElem? (i := 38) rfl)) rfl)) rfl (by rw [hml]; exact hl.1) rfl dJ5_init_a7421_1 (Nat.le_of_ble_eq_true rfl) (Nat.le_of_ble_eq_true rfl) ?_
  refine W.eq (g2 := F0 m 4 ls []) rfl ?_
  refine lv_aload_n hx hb dJ5_init_a7421_4 rfl (lv_at hl 1 rfl) ?_
  refine va_calli (va_runV (As := []) (rest := []) ⟨hx, hb, hml, hown, htg⟩ (q_strlen l Γ N ([(b, .inr (12, [.null, .int 0, .int 0, .int 0]))] : va_W) k hk) (jm_32.call0 htg ⟨Nat.le_of_ble_eq_true rfl, Nat.le_of_ble_eq_true rfl⟩) ⟨PB.blind, strRecv cb hS hk, fun U hU hW => ⟨rfl, pbU cb hP hD hS hU hW⟩⟩ rfl rfl hl.1 rfl (lv_room (Nat.le_of_ble_eq_true rfl)) dJ5_init_a7421_5 ⟨Nat.le_of_ble_eq_true rfl, Nat.le_of_ble_eq_true rfl⟩) hS (fun q _ h => h) (fun q h => h) (fun r u t H locs ht hvm hw hB hz1 hk1 hS => ?_)
  subst hw
  have hP : va_P Γ.1 vwCl ([(b, .inr (12, [.null, .int 0, .int 0, .int 0]))] : va_W) H := by rw [← ht]; exact hB
  refine lv_istore_n (lv' := [(2, .int (nI (strB k).length)), (0, .ref b), (1, .ref (Γ.2.2.1 k))]) hx hb dJ5_init_a7421_8 rfl hl (by decide) rfl (fun ls hl => ?_)
  refine lv_iload_n hx hb dJ5_init_a7421_9 rfl (lv_at hl 0 rfl) ?_
  refine lv_ldc (v := 2147483631) hx hb hown (htg _ jk_38) dJ5_init_a7421_10 ?_
  refine lv_icmp_ge (tgt := 22) hx hb dJ5_init_a7421_12 (by decide) (fun c1 => False.elim (absurd c1 (by show ¬ nI 2147483631 ≤ nI _; exact nI_ge (by omega) (by decide)))) (fun c1 => ?_)
  refine lv_iload_n hx hb dJ5_init_a7421_15 rfl (lv_at hl 0 rfl) ?_
  refine lv_bipush (v := 16) hx hb dJ5_init_a7421_16 (by decide) ?_
  refine lv_iadd hx hb dJ5_init_a7421_18 ?_
  rw [show nI (strB k).length + 16 = nI ((strB k).length + 16) from nI_add _ 16]
  refine lv_goto (tgt := 24) hx hb dJ5_init_a7421_19 (by decide) ?_
  refine lv_istore_n (lv' := [(3, .int (nI ((strB k).length + 16))), (2, .int (nI (strB k).length)), (0, .ref b), (1, .ref (Γ.2.2.1 k))]) hx hb dJ5_init_a7421_24 rfl hl (by decide) rfl (fun ls hl => ?_)
  refine lv_aload_n hx hb dJ5_init_a7421_25 rfl (lv_at hl 3 rfl) ?_
  refine va_calli (va_runV (As := []) (rest := []) ⟨hx, hb, hml, hown, htg⟩ (q_coder l Γ N ([(b, .inr (12, [.null, .int 0, .int 0, .int 0]))] : va_W) k hk) (jm_40.call0 htg ⟨Nat.le_of_ble_eq_true rfl, Nat.le_of_ble_eq_true rfl⟩) ⟨PB.blind, strRecv cb hS hk, fun U hU hW => ⟨rfl, pbU cb hP hD hS hU hW⟩⟩ rfl rfl hl.1 rfl (lv_room (Nat.le_of_ble_eq_true rfl)) dJ5_init_a7421_26 ⟨Nat.le_of_ble_eq_true rfl, Nat.le_of_ble_eq_true rfl⟩) hS (fun q _ h => h) (fun q h => h) (fun r u t H locs ht hvm hw hB hz1 hk1 hS => ?_)
  subst hw
  have hP : va_P Γ.1 vwCl ([(b, .inr (12, [.null, .int 0, .int 0, .int 0]))] : va_W) H := by rw [← ht]; exact hB
  refine lv_istore (lv' := [(4, .int 0), (3, .int (nI ((strB k).length + 16))), (2, .int (nI (strB k).length)), (0, .ref b), (1, .ref (Γ.2.2.1 k))]) hx hb dJ5_init_a7421_29 hl (by decide) rfl (fun ls hl => ?_)
  refine lv_aload_n hx hb dJ5_init_a7421_31 rfl (lv_at hl 3 rfl) ?_
  refine lv_iload hx hb dJ5_init_a7421_32 (lv_at hl 0 rfl) ?_
  refine va_put (D := Γ.1) (ref := RJ5) (ci := 12) (v := .int 0) (ty := .byte) (C := RJ4) (T := TJ4) (N := 4) hx hb htg inJ4 tyJ4 tyJ4_ok nmJ4 hown hK hP hD hS 0 rfl rfl 1 (by decide) (htg _ fb_22) (fun _ h9 => h9) rfl (by decide +kernel) rfl rfl (Nat.le_of_ble_eq_true rfl) dJ5_init_a7421_34 (fun H locs hP hD hS => ?_)
  have hP : va_P Γ.1 vwCl [(b, .inr (12, [.null, .int 0, .int 0, .int 0]))] H := hP
  have hD : va_D (AN N) [(b, .inr (12, [.null, .int 0, .int 0, .int 0]))] := hD
  refine lv_aload_n hx hb dJ5_init_a7421_37 rfl (lv_at hl 3 rfl) ?_
  refine lv_iload hx hb dJ5_init_a7421_38 (lv_at hl 0 rfl) ?_
  refine lv_if_ne (tgt := 49) hx hb dJ5_init_a7421_40 (by decide) (fun c1 => False.elim (c1 rfl)) (fun c1 => ?_)
  refine lv_iload_n hx hb dJ5_init_a7421_43 rfl (lv_at hl 1 rfl) ?_
  refine va_newa (atype := .byte) (ty := .byte) (a0 := ((strB k).length + 16, .inl z_)) hx hb (htg _ jk_byte) rfl hK hP hD hS hA (fun cA => rfl) (nI_pos (by omega)) (N' := (strB k).length + 16) (nI_clamp (by omega)) (by show ((strB k).length + 16) * 1 ≤ 536870912; omega) (Nat.le_of_ble_eq_true rfl) (by show 0 + ((strB k).length + 16) ≤ 230; omega) dJ5_init_a7421_44 (fun v cA H hK1 hP hD hS => ?_)
  have ec := cA_byte hK1
  subst ec
  refine W.widen (k := 1) (n := 30) (Nat.le_of_ble_eq_true rfl) (by show 0 + ((strB k).length + 16) ≤ 30; omega) ?_
  have hP : va_P Γ.1 vwCl ([(b, .inr (12, [.null, .int 0, .int 0, .int 0]))] ++ [(v, .inl (Γ.2.1 2, (strB k).length + 16, .inl z_))]) H := hP
  have hD : va_D (AN N) ([(b, .inr (12, [.null, .int 0, .int 0, .int 0]))] ++ [(v, .inl (Γ.2.1 2, (strB k).length + 16, .inl z_))]) := hD
  refine lv_goto (tgt := 53) hx hb dJ5_init_a7421_46 (by decide) ?_
  refine va_put (D := Γ.1) (ref := RJ5) (ci := 12) (v := .ref v) (ty := .array .byte) (C := RJ4) (T := TJ4) (N := 4) hx hb htg inJ4 tyJ4 tyJ4_ok nmJ4 hown hK hP hD hS 0 rfl rfl 0 (by decide) (htg _ fb_15) (fun _ h9 => h9) rfl (by decide +kernel) rfl rfl (Nat.le_of_ble_eq_true rfl) dJ5_init_a7421_53 (fun H locs hP hD hS => ?_)
  have hP : va_P Γ.1 vwCl (wB Γ.2.1 b v ((strB k).length + 16) 0 (nI 0) z_) H := hP
  have hD : va_D (AN N) (wB Γ.2.1 b v ((strB k).length + 16) 0 (nI 0) z_) := hD
  refine lv_aload_n hx hb dJ5_init_a7421_56 rfl (lv_at hl 3 rfl) ?_
  refine lv_aload_n hx hb dJ5_init_a7421_57 rfl (lv_at hl 4 rfl) ?_
  refine va_callr (va_runU (C := RJ4) (owner := RJ5) (As := [.ref (Γ.2.2.1 k)]) (rest := []) ⟨hx, hb, hml, hown, htg⟩ (qb_appendS l Γ N b v ((strB k).length + 16) 0 0 z_ (fun _ => 0) k hk hk14 (by omega) sb_fit0 (fun j hj => absurd hj (by omega))) (jm_43 htg ⟨Nat.le_of_ble_eq_true rfl, Nat.le_of_ble_eq_true rfl⟩) ⟨PB.blind, sb_recv hK hP, fun U hU hW => ⟨rfl, pbU cb hP hD hS hU hW⟩⟩ rfl rfl hl.1 rfl (lv_room (Nat.le_of_ble_eq_true rfl)) dJ5_init_a7421_58 ⟨Nat.le_of_ble_eq_true rfl, Nat.le_of_ble_eq_true rfl⟩) hS (fun q _ h => h) (fun q h => h) (fun u ra t1 H locs ht hvm hw hB hz1 hk1 hS => ?_)
  obtain ⟨w1, ⟨rfl, hT⟩, hP, hD⟩ := hB
  rw [ht] at hP
  refine lv_pop hx hb dJ5_init_a7421_61 rfl ?_
  exact W.vret hx hb hr (fun t ht hW => ⟨⟨(), rfl, trivial, w1, hT, by rw [ht]; exact hP, hD⟩, hS.F ht⟩) hS.2.2 dJ5_init_a7421_62 hnl
set_option maxHeartbeats 4000000 in
set_option maxRecDepth 100000 in
theorem q_sbInit (l : Launch) (Γ : Wc) (N b k : Nat) (hk : k < strN) (hk14 : 14 ≤ k) : MBv l Γ N yJ4_init_a7421 cJ4_init_a7421 2 8 245 2 230 [.ref b, .ref (Γ.2.2.1 k)] [(b, .inr (12, [.null, .int 0, .int 0, .int 0]))] (TB Γ.2.1 b (sb_cat (fun _ => 0) 0 (strC k)) (0 + (strB k).length)) := by
  refine MBv.of (by decide +kernel) (Nat.le_of_ble_eq_true rfl) ?_
  intro p e s m args below meth c ls cb hin hr hnl hP hD hl
  obtain ⟨⟨hx, hb, hml, hown, htg⟩, hK, hZ, hV, hN, hG⟩ := id cb
  have hS : va_S (AN N) s.heap s.heap [] := va_S.rf
  have hl : lv_has ls 2 [(0, .ref b), (1, .ref (Γ.2.2.1 k))] := hl
  refine lv_aload_n hx hb dJ4_init_a7421_0 rfl (lv_at hl 0 rfl) ?_
  refine lv_aload_n hx hb dJ4_init_a7421_1 rfl (lv_at hl 1 rfl) ?_
  refine va_callv (va_runI (As := [.ref (Γ.2.2.1 k)]) (rest := []) ⟨hx, hb, hml, hown, htg⟩ (q_sbInit5 l Γ N b k hk hk14) (cwI 1 htg (gw_cons (gw_t (tin4 (List.mem_of_getElem? (i := 104) rfl)) rfl)) rfl rfl rfl (htg (.initialized RJ5) (gw_t (tin1 (List.mem_of_getElem? (i := 27) rfl)) rfl)) (htg (.methodLink RJ4 7 yJ5_init_a7421) (gw_t (tin4 (List.mem_of_getElem? (i := 102) rfl)) rfl)) (htg (.instanceMethod yJ5_init_a7421) (gw_t (tin4 (List.mem_of_getElem? (i := 103) rfl)) rfl)) rfl (by decide +kernel) ⟨Nat.le_of_ble_eq_true rfl, Nat.le_of_ble_eq_true rfl⟩) ⟨PB.blind, fun U hU hW => ⟨rfl, pbU cb hP hD hS hU hW⟩⟩ rfl rfl hl.1 rfl (lv_room (Nat.le_of_ble_eq_true rfl)) dJ4_init_a7421_2 ⟨Nat.le_of_ble_eq_true rfl, Nat.le_of_ble_eq_true rfl⟩) hS (fun q _ h => h) (fun q h => h) (fun u t H locs ht hvm hw hB hz1 hk1 hS => ?_)
  obtain ⟨w1, hT, hP, hD⟩ := hB
  rw [ht] at hP
  exact W.vret hx hb hr (fun t ht hW => ⟨⟨(), rfl, trivial, w1, hT, by rw [ht]; exact hP, hD⟩, hS.F ht⟩) hS.2.2 dJ4_init_a7421_5 hnl
/-- the builder, its bytes, and what else is there -/
abbrev wC (K : Nat → ClassId) (b v m : Nat) (ml n : Int32) (a : Nat → Int32) (w2 : va_W) : va_W := (b, .inr (12, [.ref v, .int 0, .int ml, .int n])) :: (v, .inl (K 2, m, .inl a)) :: w2
set_option maxHeartbeats 4000000 in
set_option maxRecDepth 100000 in
theorem q_length5 (l : Launch) (Γ : Wc) (N b v cm : Nat) (ml n : Int32) (a : Nat → Int32) (w2 : va_W) : MBi l Γ N yJ5_length_8abf5 cJ5_length_8abf5 1 (some .int) 0 0 [.ref b] (wC Γ.2.1 b v cm ml n a w2) n := by
  refine MBi.of (by decide +kernel) (Nat.le_of_ble_eq_true rfl) ?_
  intro p e s m args below meth c ls cb hr hnl hP hD hl
  obtain ⟨⟨hx, hb, hml, hown, htg⟩, hK, hZ, hV, hN, hG⟩ := id cb
  have hS : va_S (AN N) s.heap s.heap [] := va_S.rf
  have hl : lv_has ls 1 [(0, .ref b)] := hl
  refine lv_aload_n hx hb dJ5_length_8abf5_0 rfl (lv_at hl 0 rfl) ?_
  refine va_get (D := Γ.1) (ref := RJ5) (ci := 12) (v := .int n) (C := RJ4) (T := TJ4) (N := 4) hx hb htg inJ4 hown hK hP 0 rfl rfl 3 (by decide) (htg _ fb_79) (fun _ h9 => h9) rfl dJ5_length_8abf5_1 ?_
  exact W.iret (v := n) hx hb hr (fun t ht hW => ⟨⟨_, (), rfl, rfl, by show va_P Γ.1 vwCl (wC Γ.2.1 b v cm ml n a w2) t.heap; rw [ht]; exact hP⟩, hS.F ht⟩) hS.2.2 dJ5_length_8abf5_4 hnl
theorem jm_343 : MWu RJ4 343 yJ5_length_8abf5 cJ5_length_8abf5 1 (some .int) 0 := ⟨gw_t (tin5 (List.mem_of_getElem? (i := 33) rfl)) rfl, gw_t (tin4 (List.mem_of_getElem? (i := 128) rfl)) rfl, gw_t (tin5 (List.mem_of_getElem? (i := 34) rfl)) rfl, gw_t (tin1 (List.mem_of_getElem? (i := 27) rfl)) rfl, gw_t (tin5 (List.mem_of_getElem? (i := 35) rfl)) rfl, rfl, by decide, by decide +kernel⟩
set_option maxHeartbeats 4000000 in
set_option maxRecDepth 100000 in
theorem q_length (l : Launch) (Γ : Wc) (N b v cm : Nat) (ml n : Int32) (a : Nat → Int32) (w2 : va_W) : MBi l Γ N yJ4_length_8abf5 cJ4_length_8abf5 1 (some .int) 1 22 [.ref b] (wC Γ.2.1 b v cm ml n a w2) n := by
  refine MBi.of (by decide +kernel) (Nat.le_of_ble_eq_true rfl) ?_
  intro p e s m args below meth c ls cb hr hnl hP hD hl
  obtain ⟨⟨hx, hb, hml, hown, htg⟩, hK, hZ, hV, hN, hG⟩ := id cb
  have hS : va_S (AN N) s.heap s.heap [] := va_S.rf
  have hl : lv_has ls 1 [(0, .ref b)] := hl
  refine lv_aload_n hx hb dJ4_length_8abf5_0 rfl (lv_at hl 0 rfl) ?_
  refine va_calli (va_runZ (As := []) (rest := []) (sbAt hK) ⟨hx, hb, hml, hown, htg⟩ (q_length5 l Γ N b v cm ml n a w2) jm_343 ⟨Nat.le_of_ble_eq_true rfl, Nat.le_of_ble_eq_true rfl⟩ ⟨PB.blind, sb_recv hK hP, fun U hU hW => ⟨rfl, pbU cb hP hD hS hU hW⟩⟩ rfl rfl hl.1 rfl (lv_room (Nat.le_of_ble_eq_true rfl)) dJ4_length_8abf5_1 ⟨Nat.le_of_ble_eq_true rfl, Nat.le_of_ble_eq_true rfl⟩) hS (fun q _ h => h) (fun q h => h) (fun r u t H locs ht hvm hw hB hz1 hk1 hS => ?_)
  subst hw
  have hP := hB
  rw [ht] at hP
  exact W.iret (v := r) hx hb hr (fun t ht hW => ⟨⟨_, (), rfl, rfl, by show va_P Γ.1 vwCl (wC Γ.2.1 b v cm ml r a w2) t.heap; rw [ht]; exact hP⟩, hS.F ht⟩) hS.2.2 dJ4_length_8abf5_4 hnl
theorem jm_138 : Cond.methodLink RJ5 138 Lib.Math.min.name ∈ gw ∧ Cond.static Lib.Math.min.name ∈ gw ∧ Cond.initialized "java/lang/Math" ∈ gw ∧ Cond.code Lib.Math.min.name Lib.Math.min.code 2 (some .int) ∈ gw := ⟨gw_t (tin5 (List.mem_of_getElem? (i := 43) rfl)) rfl, gw_t (tin2 (List.mem_of_getElem? (i := 142) rfl)) rfl, gw_t (tin1 (List.mem_of_getElem? (i := 14) rfl)) rfl, gw_t (tin2 (List.mem_of_getElem? (i := 143) rfl)) rfl⟩
theorem jm_144 : MWs RJ5 144 yJ0_checkIndex_df160 cJ0_checkIndex_df160 2 none 2 := ⟨gw_t (tin5 (List.mem_of_getElem? (i := 44) rfl)) rfl, gw_t (tin2 (List.mem_of_getElem? (i := 156) rfl)) rfl, gw_t (tin1 (List.mem_of_getElem? (i := 13) rfl)) rfl, gw_t (tin2 (List.mem_of_getElem? (i := 157) rfl)) rfl, by decide, by decide, by decide +kernel⟩
set_option maxHeartbeats 4000000 in
theorem q_pre (l : Launch) (Γ : Wc) (N : Nat) (w : va_W) (i n : Int32) (v : Value) (hv : lg_sl [.int i, .int n, v] = [.val (.int i), .val (.int n), .val v]) (h0 : ¬ i < 0) (hn : i < n) : MBi l Γ N yJ3_checkIndex_8e157 cJ3_checkIndex_8e157 3 (some .int) 0 0 [.int i, .int n, v] w i := by
  refine MBi.of (by decide +kernel) (by rw [hv]; exact Nat.le_refl 3) ?_
  intro p e s m args below meth c ls cb hr hnl hP hD hl
  obtain ⟨⟨hx, hb, hml, hown, htg⟩, hK, hZ, hV, hN, hG⟩ := id cb
  have hS : va_S (AN N) s.heap s.heap [] := va_S.rf
  have hl : lv_has ls 3 [(0, .int i), (1, .int n), (2, v)] := hl
  refine lv_iload_n hx hb dJ3_checkIndex_8e157_0 rfl (lv_at hl 0 rfl) ?_
  refine lv_if_lt (tgt := 9) hx hb dJ3_checkIndex_8e157_1 (by decide) (fun h => absurd h h0) (fun _ => ?_)
  refine lv_iload_n hx hb dJ3_checkIndex_8e157_4 rfl (lv_at hl 0 rfl) ?_
  refine lv_iload_n hx hb dJ3_checkIndex_8e157_5 rfl (lv_at hl 1 rfl) ?_
  refine lv_icmp_lt (tgt := 16) hx hb dJ3_checkIndex_8e157_6 (by decide) (fun _ => ?_) (fun h => absurd hn h)
  refine lv_iload_n hx hb dJ3_checkIndex_8e157_16 rfl (lv_at hl 0 rfl) ?_
  exact W.iret (v := i) hx hb hr (fun t ht hW => ⟨⟨_, (), rfl, rfl, by show va_P Γ.1 vwCl w t.heap; rw [ht]; exact hP⟩, hS.F ht⟩) hS.2.2 dJ3_checkIndex_8e157_17 hnl
set_option maxHeartbeats 4000000 in
theorem q_chk (l : Launch) (Γ : Wc) (N : Nat) (w : va_W) (i n : Int32) (h0 : ¬ i < 0) (hn : i < n) : MBv l Γ N yJ0_checkIndex_df160 cJ0_checkIndex_df160 2 1 22 0 0 [.int i, .int n] w (fun w1 => w1 = w) := by
  refine MBv.of (by decide +kernel) (Nat.le_of_ble_eq_true rfl) ?_
  intro p e s m args below meth c ls cb hin hr hnl hP hD hl
  obtain ⟨⟨hx, hb, hml, hown, htg⟩, hK, hZ, hV, hN, hG⟩ := id cb
  have hS : va_S (AN N) s.heap s.heap [] := va_S.rf
  have hl : lv_has ls 2 [(0, .int i), (1, .int n)] := hl
  refine lv_iload_n hx hb dJ0_checkIndex_df160_0 rfl (lv_at hl 0 rfl) ?_
  refine lv_iload_n hx hb dJ0_checkIndex_df160_1 rfl (lv_at hl 1 rfl) ?_
  have hZ9 : ∃ v : Value, (v = .null ∨ ∃ t, v = .ref t) ∧ va_Z "jdk/internal/util/Preconditions" "SIOOBE_FORMATTER" "Ljava/util/function/BiFunction;" v (AN N) s s.heap := by
    rcases hZ.2.2.2.1 with h | ⟨t, h⟩
    · exact ⟨_, Or.inl rfl, h⟩
    · exact ⟨_, Or.inr ⟨t, rfl⟩, h⟩
  obtain ⟨v, hv, hZ9⟩ := hZ9
  have hv2 : lg_sl [.int i, .int n, v] = [.val (.int i), .val (.int n), .val v] := by rcases hv with rfl | ⟨t, rfl⟩ <;> rfl
  refine va_gets hx hb hZ9 hS hown (htg _ js_fmt) (fun _ h => h) dJ0_checkIndex_df160_2 ?_
  refine va_calli (va_runS (As := [.int i, .int n, v]) (rest := []) ⟨hx, hb, hml, hown, htg⟩ (q_pre l Γ N w i n v hv2 h0 hn) (js_mpre.call0 htg ⟨Nat.le_of_ble_eq_true rfl, Nat.le_of_ble_eq_true rfl⟩) ⟨PB.blind, fun U hU hW => ⟨rfl, pbU cb hP hD hS hU hW⟩⟩ rfl rfl hl.1 rfl (lv_room (Nat.le_of_ble_eq_true rfl)) dJ0_checkIndex_df160_5 ⟨Nat.zero_le _, Nat.zero_le _⟩) hS (fun q _ h => h) (fun q h => h) (fun r u t H locs ht hvm hw hB hz1 hk1 hS => ?_)
  have hP : va_P Γ.1 vwCl w H := by rw [← ht]; exact hB
  refine lv_pop hx hb dJ0_checkIndex_df160_8 rfl ?_
  exact W.vret hx hb hr (fun t ht hW => ⟨⟨(), rfl, trivial, _, rfl, by rw [ht]; exact hP, hD⟩, hS.F ht⟩) hS.2.2 dJ0_checkIndex_df160_9 hnl
theorem nar_char : ∀ c, c < 256 → narrow .char (.int (nI c)) = .int (nI c) := by decide +kernel
set_option maxHeartbeats 4000000 in
set_option maxRecDepth 100000 in
theorem q_charAt5 (l : Launch) (Γ : Wc) (N b v cm : Nat) (ml : Int32) (n : Nat) (a : Nat → Int32) (t : Nat → Nat) (i : Nat) (hi : i < n) (hm : n ≤ cm ∧ cm ≤ 130) (hL : sb_Lat t n a) (w2 : va_W) : MBi l Γ N yJ5_charAt_5068e cJ5_charAt_5068e 5 (some .char) 2 60 [.ref b, .int (nI i)] (wC Γ.2.1 b v cm ml (nI n) a w2) (nI (t i)) := by
  refine MBi.of (by decide +kernel) (Nat.le_of_ble_eq_true rfl) ?_
  intro p e s m args below meth c ls cb hr hnl hP hD hl
  obtain ⟨⟨hx, hb, hml, hown, htg⟩, hK, hZ, hV, hN, hG⟩ := id cb
  have hS : va_S (AN N) s.heap s.heap [] := va_S.rf
  have hl : lv_has ls 5 [(0, .ref b), (1, .int (nI i))] := hl
  refine lv_aload_n hx hb dJ5_charAt_5068e_0 rfl (lv_at hl 0 rfl) ?_
  refine va_get (D := Γ.1) (ref := RJ5) (ci := 12) (v := .int 0) (C := RJ4) (T := TJ4) (N := 4) hx hb htg inJ4 hown hK hP 0 rfl rfl 1 (by decide) (htg _ fb_22) (fun _ h9 => h9) rfl dJ5_charAt_5068e_1 ?_
  refine lv_istore_n (lv' := [(2, .int 0), (0, .ref b), (1, .int (nI i))]) hx hb dJ5_charAt_5068e_4 rfl hl (by decide) rfl (fun ls hl => ?_)
  refine lv_aload_n hx hb dJ5_charAt_5068e_5 rfl (lv_at hl 1 rfl) ?_
  refine va_get (D := Γ.1) (ref := RJ5) (ci := 12) (v := .ref v) (C := RJ4) (T := TJ4) (N := 4) hx hb htg inJ4 hown hK hP 0 rfl rfl 0 (by decide) (htg _ fb_15) (fun _ h9 => h9) rfl dJ5_charAt_5068e_6 ?_
  refine lv_astore_n (lv' := [(3, .ref v), (2, .int 0), (0, .ref b), (1, .int (nI i))]) hx hb dJ5_charAt_5068e_9 rfl hl (by decide) rfl (fun ls hl => ?_)
  refine lv_aload_n hx hb dJ5_charAt_5068e_10 rfl (lv_at hl 2 rfl) ?_
  refine va_get (D := Γ.1) (ref := RJ5) (ci := 12) (v := .int (nI n)) (C := RJ4) (T := TJ4) (N := 4) hx hb htg inJ4 hown hK hP 0 rfl rfl 3 (by decide) (htg _ fb_79) (fun _ h9 => h9) rfl dJ5_charAt_5068e_11 ?_
  refine lv_aload_n hx hb dJ5_charAt_5068e_14 rfl (lv_at hl 0 rfl) ?_
  refine va_alen (D := Γ.1) (v := nI cm) hx hb hK hP 1 2 rfl rfl rfl dJ5_charAt_5068e_15 ?_
  refine lv_iload_n hx hb dJ5_charAt_5068e_16 rfl (lv_at hl 1 rfl) ?_
  refine lv_ishr hx hb dJ5_charAt_5068e_17 ?_
  rw [sb_shr0]
  refine va_mmin hx hb (by rw [hml, hl.1]) hown (htg _ jm_138.1) (htg _ jm_138.2.1) (htg _ jm_138.2.2.1) (htg _ jm_138.2.2.2) (Nat.le_of_ble_eq_true rfl) (Nat.le_of_ble_eq_true rfl) (Nat.zero_le _) (Nat.zero_le _) dJ5_charAt_5068e_18 ?_
  rw [if_neg (nI_nlt (show n ≤ cm by omega) (by omega))]
  refine lv_istore (lv' := [(4, .int (nI n)), (3, .ref v), (2, .int 0), (0, .ref b), (1, .int (nI i))]) hx hb dJ5_charAt_5068e_21 hl (by decide) rfl (fun ls hl => ?_)
  refine lv_iload_n hx hb dJ5_charAt_5068e_23 rfl (lv_at hl 4 rfl) ?_
  refine lv_iload hx hb dJ5_charAt_5068e_24 (lv_at hl 0 rfl) ?_
  refine va_callv (va_runS (As := [.int (nI i), .int (nI n)]) (rest := []) ⟨hx, hb, hml, hown, htg⟩ (q_chk l Γ N (wC Γ.2.1 b v cm ml (nI n) a w2) (nI i) (nI n) (nI_pos (by omega)) (nI_lt hi (by omega))) (jm_144.call0 htg ⟨Nat.le_of_ble_eq_true rfl, Nat.le_of_ble_eq_true rfl⟩) ⟨PB.blind, fun U hU hW => ⟨rfl, pbU cb hP hD hS hU hW⟩⟩ rfl rfl hl.1 rfl (lv_room (Nat.le_of_ble_eq_true rfl)) dJ5_charAt_5068e_26 ⟨Nat.le_of_ble_eq_true rfl, Nat.le_of_ble_eq_true rfl⟩) hS (fun q _ h => h) (fun q h => h) (fun u t2 H locs ht hvm hw hB hz1 hk1 hS => ?_)
  obtain ⟨w1, rfl, hP, hD⟩ := hB
  rw [ht] at hP
  refine lv_iload_n hx hb dJ5_charAt_5068e_29 rfl (lv_at hl 2 rfl) ?_
  refine lv_if_ne (tgt := 42) hx hb dJ5_charAt_5068e_30 (by decide) (fun c1 => False.elim (c1 rfl)) (fun c1 => ?_)
  refine lv_aload_n hx hb dJ5_charAt_5068e_33 rfl (lv_at hl 1 rfl) ?_
  refine lv_iload_n hx hb dJ5_charAt_5068e_34 rfl (lv_at hl 4 rfl) ?_
  refine va_bald (D := Γ.1) hx hb hK hP 1 2 rfl rfl (nI_in (show i < cm by omega) (by omega)) dJ5_charAt_5068e_35 ?_
  rw [nI_clamp (show i < 2 ^ 31 by omega), (hL i hi).2]
  refine lv_sipush (v := 255) hx hb dJ5_charAt_5068e_36 (by decide) ?_
  refine lv_iand hx hb dJ5_charAt_5068e_39 ?_
  have hby := sb_byte (t i) (hL i hi).1
  rw [hby.1]
  refine lv_i2c hx hb dJ5_charAt_5068e_40 hby.2.1 ?_
  have hnar : narrow .char (.int (nI (t i))) = .int (nI (t i)) := nar_char (t i) (hL i hi).1
  exact W.zret (v := nI (t i)) hx hb hr hnar (fun t2 ht hW => ⟨⟨_, (), rfl, rfl, by show va_P Γ.1 vwCl (wC Γ.2.1 b v cm ml (nI n) a w2) t2.heap; rw [ht]; exact hP⟩, hS.F ht⟩) hS.2.2 dJ5_charAt_5068e_41 hnl
theorem jm_329 : MWu RJ4 329 yJ5_charAt_5068e cJ5_charAt_5068e 5 (some .char) 1 := ⟨gw_t (tin5 (List.mem_of_getElem? (i := 40) rfl)) rfl, gw_t (tin4 (List.mem_of_getElem? (i := 128) rfl)) rfl, gw_t (tin5 (List.mem_of_getElem? (i := 41) rfl)) rfl, gw_t (tin1 (List.mem_of_getElem? (i := 27) rfl)) rfl, gw_t (tin5 (List.mem_of_getElem? (i := 42) rfl)) rfl, rfl, by decide, by decide +kernel⟩
set_option maxHeartbeats 4000000 in
set_option maxRecDepth 100000 in
theorem q_charAt (l : Launch) (Γ : Wc) (N b v cm : Nat) (ml : Int32) (n : Nat) (a : Nat → Int32) (t : Nat → Nat) (i : Nat) (hi : i < n) (hm : n ≤ cm ∧ cm ≤ 130) (hL : sb_Lat t n a) (w2 : va_W) : MBi l Γ N yJ4_charAt_5068e cJ4_charAt_5068e 2 (some .char) 3 90 [.ref b, .int (nI i)] (wC Γ.2.1 b v cm ml (nI n) a w2) (nI (t i)) := by
  refine MBi.of (by decide +kernel) (Nat.le_of_ble_eq_true rfl) ?_
  intro p e s m args below meth c ls cb hr hnl hP hD hl
  obtain ⟨⟨hx, hb, hml, hown, htg⟩, hK, hZ, hV, hN, hG⟩ := id cb
  have hS : va_S (AN N) s.heap s.heap [] := va_S.rf
  have hl : lv_has ls 2 [(0, .ref b), (1, .int (nI i))] := hl
  refine lv_aload_n hx hb dJ4_charAt_5068e_0 rfl (lv_at hl 0 rfl) ?_
  refine lv_iload_n hx hb dJ4_charAt_5068e_1 rfl (lv_at hl 1 rfl) ?_
  refine va_calli (va_runZ (As := [.int (nI i)]) (rest := []) (sbAt hK) ⟨hx, hb, hml, hown, htg⟩ (q_charAt5 l Γ N b v cm ml n a t i hi hm hL w2) jm_329 ⟨Nat.le_of_ble_eq_true rfl, Nat.le_of_ble_eq_true rfl⟩ ⟨PB.blind, sb_recv hK hP, fun U hU hW => ⟨rfl, pbU cb hP hD hS hU hW⟩⟩ rfl rfl hl.1 rfl (lv_room (Nat.le_of_ble_eq_true rfl)) dJ4_charAt_5068e_2 ⟨Nat.le_of_ble_eq_true rfl, Nat.le_of_ble_eq_true rfl⟩) hS (fun q _ h => h) (fun q h => h) (fun r u t2 H locs ht hvm hw hB hz1 hk1 hS => ?_)
  subst hw
  have hP : va_P Γ.1 vwCl (wC Γ.2.1 b v cm ml (nI n) a w2) H := by rw [← ht]; exact hB
  exact W.zret (v := nI (t i)) hx hb hr (nar_char (t i) (hL i hi).1) (fun t2 ht hW => ⟨⟨_, (), rfl, rfl, by show va_P Γ.1 vwCl (wC Γ.2.1 b v cm ml (nI n) a w2) t2.heap; rw [ht]; exact hP⟩, hS.F ht⟩) hS.2.2 dJ4_charAt_5068e_5 hnl
