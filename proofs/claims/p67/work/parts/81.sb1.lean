/-! printed: StringBuilder's methods, walked -/
theorem jm_194 : Cond.methodLink RJ8 194 Lib.Math.max.name ∈ gw ∧ Cond.static Lib.Math.max.name ∈ gw ∧ Cond.initialized "java/lang/Math" ∈ gw ∧ Cond.code Lib.Math.max.name Lib.Math.max.code 2 (some .int) ∈ gw := ⟨gw_t (tin4 (List.mem_of_getElem? (i := 145) rfl)) rfl, gw_t (tin4 (List.mem_of_getElem? (i := 16) rfl)) rfl, gw_t (tin1 (List.mem_of_getElem? (i := 14) rfl)) rfl, gw_t (tin4 (List.mem_of_getElem? (i := 17) rfl)) rfl⟩
theorem jk_200 : Cond.constant RJ8 200 2147483639 ∈ gw := gw_t (tin4 (List.mem_of_getElem? (i := 146) rfl)) rfl
set_option maxHeartbeats 4000000 in
set_option maxRecDepth 100000 in
theorem q_newLength (l : Launch) (Γ : Wc) (N : Nat) (w : va_W) (m0 g0 h0 : Nat) (hm : m0 ≤ 1000 ∧ g0 ≤ 1000 ∧ h0 ≤ 1000 ∧ 1 ≤ h0) : MBi l Γ N yJ8_newLength_cabcc cJ8_newLength_cabcc 4 (some .int) 1 22 [.int (nI m0), .int (nI g0), .int (nI h0)] w (nI (m0 + max g0 h0)) := by
  refine MBi.of (by decide +kernel) (Nat.le_of_ble_eq_true rfl) ?_
  intro p e s m args below meth c ls cb hr hnl hP hD hl
  obtain ⟨⟨hx, hb, hml, hown, htg⟩, hK, hZ, hV, hN, hG⟩ := id cb
  have hS : va_S (AN N) s.heap s.heap [] := va_S.rf
  have hl : lv_has ls 4 [(0, .int (nI m0)), (1, .int (nI g0)), (2, .int (nI h0))] := hl
  refine lv_iload_n hx hb dJ8_newLength_cabcc_0 rfl (lv_at hl 0 rfl) ?_
  refine lv_iload_n hx hb dJ8_newLength_cabcc_1 rfl (lv_at hl 1 rfl) ?_
  refine lv_iload_n hx hb dJ8_newLength_cabcc_2 rfl (lv_at hl 2 rfl) ?_
  refine va_mmax hx hb (by rw [hml, hl.1]) hown (htg _ jm_194.1) (htg _ jm_194.2.1) (htg _ jm_194.2.2.1) (htg _ jm_194.2.2.2) (Nat.le_of_ble_eq_true rfl) (Nat.le_of_ble_eq_true rfl) (Nat.zero_le _) (Nat.zero_le _) dJ8_newLength_cabcc_3 ?_
  have em : (if nI g0 < nI h0 then nI h0 else nI g0) = nI (max g0 h0) := by
    by_cases q : g0 < h0
    · rw [if_pos (nI_lt q (by omega)), Nat.max_eq_right (by omega)]
    · rw [if_neg (nI_nlt (by omega) (by omega)), Nat.max_eq_left (by omega)]
  rw [em]
  refine lv_iadd hx hb dJ8_newLength_cabcc_6 ?_
  rw [nI_add]
  refine lv_istore_n (lv' := [(3, .int (nI (m0 + max g0 h0))), (0, .int (nI m0)), (1, .int (nI g0)), (2, .int (nI h0))]) hx hb dJ8_newLength_cabcc_7 rfl hl (by decide) rfl (fun ls hl => ?_)
  refine lv_iconst (v := 0) hx hb dJ8_newLength_cabcc_8 (by decide) ?_
  refine lv_iload_n hx hb dJ8_newLength_cabcc_9 rfl (lv_at hl 0 rfl) ?_
  have hb1 : m0 + max g0 h0 < 2 ^ 31 ∧ 0 < m0 + max g0 h0 := by omega
  refine lv_icmp_ge (tgt := 21) hx hb dJ8_newLength_cabcc_10 (by decide) (fun c1 => False.elim (absurd c1 (fun z => by have := (nI_leI (a := m0 + max g0 h0) (b := 0) hb1.1 (by decide)).mp z; omega))) (fun c1 => ?_)
  refine lv_iload_n hx hb dJ8_newLength_cabcc_13 rfl (lv_at hl 0 rfl) ?_
  refine lv_ldc (v := 2147483639) hx hb hown (htg _ jk_200) dJ8_newLength_cabcc_14 ?_
  refine lv_icmp_gt (tgt := 21) hx hb dJ8_newLength_cabcc_16 (by decide) (fun c1 => False.elim (absurd c1 (by show ¬ nI 2147483639 < nI _; exact nI_nlt (by omega) (by decide)))) (fun c1 => ?_)
  refine lv_iload_n hx hb dJ8_newLength_cabcc_19 rfl (lv_at hl 0 rfl) ?_
  exact W.iret (v := nI (m0 + max g0 h0)) hx hb hr (fun t ht hW => ⟨⟨_, (), rfl, rfl, by show va_P Γ.1 vwCl w t.heap; rw [ht]; exact hP⟩, hS.F ht⟩) hS.2.2 dJ8_newLength_cabcc_20 hnl
theorem jm_114 : MWs RJ5 114 yJ8_newLength_cabcc cJ8_newLength_cabcc 4 (some .int) 3 := ⟨gw_t (tin4 (List.mem_of_getElem? (i := 142) rfl)) rfl, gw_t (tin4 (List.mem_of_getElem? (i := 143) rfl)) rfl, gw_t (tin1 (List.mem_of_getElem? (i := 29) rfl)) rfl, gw_t (tin4 (List.mem_of_getElem? (i := 144) rfl)) rfl, by decide, by decide, by decide +kernel⟩
theorem jk_39 : Cond.constant RJ5 39 2147483647 ∈ gw := gw_t (tin4 (List.mem_of_getElem? (i := 108) rfl)) rfl
set_option maxHeartbeats 4000000 in
set_option maxRecDepth 100000 in
theorem q_newCapacity (l : Launch) (Γ : Wc) (N b v cm : Nat) (ml n : Int32) (a : Nat → Int32) (q : Nat) (hm : cm < q ∧ q ≤ 64) : MBi l Γ N yJ5_newCapacity_0f7a4 cJ5_newCapacity_0f7a4 6 (some .int) 2 60 [.ref b, .int (nI q)] (wB Γ.2.1 b v cm ml n a) (nI (cm + max (q - cm) (cm + 2))) := by
  refine MBi.of (by decide +kernel) (Nat.le_of_ble_eq_true rfl) ?_
  intro p e s m args below meth c ls cb hr hnl hP hD hl
  obtain ⟨⟨hx, hb, hml, hown, htg⟩, hK, hZ, hV, hN, hG⟩ := id cb
  have hS : va_S (AN N) s.heap s.heap [] := va_S.rf
  have hl : lv_has ls 6 [(0, .ref b), (1, .int (nI q))] := hl
  refine lv_aload_n hx hb dJ5_newCapacity_0f7a4_0 rfl (lv_at hl 0 rfl) ?_
  refine va_get (D := Γ.1) (ref := RJ5) (ci := 12) (v := .ref v) (C := RJ4) (T := TJ4) (N := 4) hx hb htg inJ4 hown hK hP 0 rfl rfl 0 (by decide) (htg _ fb_15) (fun _ h9 => h9) rfl dJ5_newCapacity_0f7a4_1 ?_
  refine va_alen (D := Γ.1) (v := nI cm) hx hb hK hP 1 2 rfl rfl rfl dJ5_newCapacity_0f7a4_4 ?_
  refine lv_istore_n (lv' := [(2, .int (nI cm)), (0, .ref b), (1, .int (nI q))]) hx hb dJ5_newCapacity_0f7a4_5 rfl hl (by decide) rfl (fun ls hl => ?_)
  refine lv_iload_n hx hb dJ5_newCapacity_0f7a4_6 rfl (lv_at hl 2 rfl) ?_
  refine lv_aload_n hx hb dJ5_newCapacity_0f7a4_7 rfl (lv_at hl 1 rfl) ?_
  refine va_get (D := Γ.1) (ref := RJ5) (ci := 12) (v := .int 0) (C := RJ4) (T := TJ4) (N := 4) hx hb htg inJ4 hown hK hP 0 rfl rfl 1 (by decide) (htg _ fb_22) (fun _ h9 => h9) rfl dJ5_newCapacity_0f7a4_8 ?_
  refine lv_ishl hx hb dJ5_newCapacity_0f7a4_11 ?_
  rw [sb_shl0]
  refine lv_istore_n (lv' := [(3, .int (nI q)), (2, .int (nI cm)), (0, .ref b), (1, .int (nI q))]) hx hb dJ5_newCapacity_0f7a4_12 rfl hl (by decide) rfl (fun ls hl => ?_)
  refine lv_iload_n hx hb dJ5_newCapacity_0f7a4_13 rfl (lv_at hl 0 rfl) ?_
  refine lv_iload_n hx hb dJ5_newCapacity_0f7a4_14 rfl (lv_at hl 1 rfl) ?_
  refine lv_isub hx hb dJ5_newCapacity_0f7a4_15 ?_
  rw [show nI q - nI cm = nI (q - cm) from (Int32.ofNat_sub q cm (by omega)).symm]
  refine lv_istore (lv' := [(4, .int (nI (q - cm))), (3, .int (nI q)), (2, .int (nI cm)), (0, .ref b), (1, .int (nI q))]) hx hb dJ5_newCapacity_0f7a4_16 hl (by decide) rfl (fun ls hl => ?_)
  refine lv_iload_n hx hb dJ5_newCapacity_0f7a4_18 rfl (lv_at hl 2 rfl) ?_
  refine lv_iload hx hb dJ5_newCapacity_0f7a4_19 (lv_at hl 0 rfl) ?_
  refine lv_iload_n hx hb dJ5_newCapacity_0f7a4_21 rfl (lv_at hl 2 rfl) ?_
  refine lv_iconst (v := 2) hx hb dJ5_newCapacity_0f7a4_22 (by decide) ?_
  refine lv_aload_n hx hb dJ5_newCapacity_0f7a4_23 rfl (lv_at hl 3 rfl) ?_
  refine va_get (D := Γ.1) (ref := RJ5) (ci := 12) (v := .int 0) (C := RJ4) (T := TJ4) (N := 4) hx hb htg inJ4 hown hK hP 0 rfl rfl 1 (by decide) (htg _ fb_22) (fun _ h9 => h9) rfl dJ5_newCapacity_0f7a4_24 ?_
  refine lv_ishl hx hb dJ5_newCapacity_0f7a4_27 ?_
  rw [sb_shl0]
  refine lv_iadd hx hb dJ5_newCapacity_0f7a4_28 ?_
  rw [show nI cm + 2 = nI (cm + 2) from nI_add cm 2]
  refine va_calli (va_runS (As := [.int (nI cm), .int (nI (q - cm)), .int (nI (cm + 2))]) (rest := []) ⟨hx, hb, hml, hown, htg⟩ (q_newLength l Γ N (wB Γ.2.1 b v cm ml n a) cm (q - cm) (cm + 2) (by omega)) (jm_114.call0 htg ⟨Nat.le_of_ble_eq_true rfl, Nat.le_of_ble_eq_true rfl⟩) ⟨PB.blind, fun U hU hW => ⟨rfl, pbU cb hP hD hS hU hW⟩⟩ rfl rfl hl.1 rfl (lv_room (Nat.le_of_ble_eq_true rfl)) dJ5_newCapacity_0f7a4_29 ⟨Nat.zero_le _, Nat.zero_le _⟩) hS (fun q _ h => h) (fun q h => h) (fun r u t H locs ht hvm hw hB hz1 hk1 hS => ?_)
  subst hw
  have hP : va_P Γ.1 vwCl (wB Γ.2.1 b v cm ml n a) H := by rw [← ht]; exact hB
  refine lv_istore (lv' := [(5, .int (nI (cm + max (q - cm) (cm + 2)))), (4, .int (nI (q - cm))), (3, .int (nI q)), (2, .int (nI cm)), (0, .ref b), (1, .int (nI q))]) hx hb dJ5_newCapacity_0f7a4_32 hl (by decide) rfl (fun ls hl => ?_)
  refine lv_iload hx hb dJ5_newCapacity_0f7a4_34 (lv_at hl 0 rfl) ?_
  refine lv_ldc (v := 2147483647) hx hb hown (htg _ jk_39) dJ5_newCapacity_0f7a4_36 ?_
  refine lv_icmp_ne (tgt := 51) hx hb dJ5_newCapacity_0f7a4_38 (by decide) (fun c1 => ?_) (fun c1 => False.elim (by have := (nI_eq (a := cm + max (q - cm) (cm + 2)) (b := 2147483647) (by omega) (by decide)).mp c1; omega))
  refine lv_iload hx hb dJ5_newCapacity_0f7a4_51 (lv_at hl 0 rfl) ?_
  refine lv_aload_n hx hb dJ5_newCapacity_0f7a4_53 rfl (lv_at hl 4 rfl) ?_
  refine va_get (D := Γ.1) (ref := RJ5) (ci := 12) (v := .int 0) (C := RJ4) (T := TJ4) (N := 4) hx hb htg inJ4 hown hK hP 0 rfl rfl 1 (by decide) (htg _ fb_22) (fun _ h9 => h9) rfl dJ5_newCapacity_0f7a4_54 ?_
  refine lv_ishr hx hb dJ5_newCapacity_0f7a4_57 ?_
  rw [sb_shr0]
  exact W.iret (v := nI (cm + max (q - cm) (cm + 2))) hx hb hr (fun t ht hW => ⟨⟨_, (), rfl, rfl, by show va_P Γ.1 vwCl (wB Γ.2.1 b v cm ml n a) t.heap; rw [ht]; exact hP⟩, hS.F ht⟩) hS.2.2 dJ5_newCapacity_0f7a4_58 hnl
theorem jm_304 : Cond.methodLink RJ7 304 Lib.Math.min.name ∈ gw ∧ Cond.static Lib.Math.min.name ∈ gw ∧ Cond.initialized "java/lang/Math" ∈ gw ∧ Cond.code Lib.Math.min.name Lib.Math.min.code 2 (some .int) ∈ gw := ⟨gw_t (tin4 (List.mem_of_getElem? (i := 160) rfl)) rfl, gw_t (tin2 (List.mem_of_getElem? (i := 142) rfl)) rfl, gw_t (tin1 (List.mem_of_getElem? (i := 14) rfl)) rfl, gw_t (tin2 (List.mem_of_getElem? (i := 143) rfl)) rfl⟩
theorem jm_150 : Cond.methodLink RJ7 150 arraycopyName ∈ gw ∧ Cond.native arraycopyName ∈ gw ∧ Cond.static arraycopyName ∈ gw ∧ Cond.initialized "java/lang/System" ∈ gw := ⟨gw_t (tin4 (List.mem_of_getElem? (i := 161) rfl)) rfl, gw_t (tin4 (List.mem_of_getElem? (i := 35) rfl)) rfl, gw_t (tin4 (List.mem_of_getElem? (i := 34) rfl)) rfl, gw_t (tin1 (List.mem_of_getElem? (i := 18) rfl)) rfl⟩
theorem jk_byte : Cond.arrayClass .byte ∈ gw := gw_t (tin2 (List.mem_of_getElem? (i := 97) rfl)) rfl
set_option maxHeartbeats 4000000 in
set_option maxRecDepth 100000 in
theorem q_copyOf (l : Launch) (Γ : Wc) (N b v cm : Nat) (ml n : Int32) (a : Nat → Int32) (q : Nat) (hm : cm < q ∧ q ≤ 200) (hf : sb_Fit a) : MBr l Γ N yJ7_copyOf_9075b cJ7_copyOf_9075b 3 (some (.array .byte)) 1 40 1 200 [.ref v, .int (nI q)] (wB Γ.2.1 b v cm ml n a) (fun ra w1 => w1 = (wB Γ.2.1 b v cm ml n a) ++ [(ra, .inl (Γ.2.1 2, q, .inl (va_cpy a z_ 0 0 cm)))]) := by
  refine MBr.of (by decide +kernel) (Nat.le_of_ble_eq_true rfl) ?_
  intro p e s m args below meth c ls cb hr hnl hP hD hl
  obtain ⟨⟨hx, hb, hml, hown, htg⟩, hK, hZ, hV, hN, hG⟩ := id cb
  have hS : va_S (AN N) s.heap s.heap [] := va_S.rf
  have hl : lv_has ls 3 [(0, .ref v), (1, .int (nI q))] := hl
  have hA : ∀ q : Nat, s.heap.size ≤ q → AN N q := fun q h => Nat.le_trans hN h
  refine lv_iload_n hx hb dJ7_copyOf_9075b_0 rfl (lv_at hl 1 rfl) ?_
  refine lv_aload_n hx hb dJ7_copyOf_9075b_1 rfl (lv_at hl 0 rfl) ?_
  refine va_alen (D := Γ.1) (v := nI cm) hx hb hK hP 1 2 rfl rfl rfl dJ7_copyOf_9075b_2 ?_
  refine lv_icmp_ne (tgt := 14) hx hb dJ7_copyOf_9075b_3 (by decide) (fun c1 => ?_) (fun c1 => False.elim (by have := (nI_eq (a := q) (b := cm) (by omega) (by omega)).mp c1; omega))
  refine lv_iload_n hx hb dJ7_copyOf_9075b_14 rfl (lv_at hl 1 rfl) ?_
  refine va_newa (atype := .byte) (ty := .byte) (a0 := (q, .inl z_)) hx hb (htg _ jk_byte) rfl hK hP hD hS hA (fun cA => rfl) (nI_pos (by omega)) (N' := q) (nI_clamp (by omega)) (by show q * 1 ≤ 536870912; omega) (Nat.le_of_ble_eq_true rfl) (by show 0 + q ≤ 200; omega) dJ7_copyOf_9075b_15 (fun ra cA H hK1 hP hD hS => ?_)
  have ec := cA_byte hK1
  subst ec
  have hP : va_P Γ.1 vwCl ((wB Γ.2.1 b v cm ml n a) ++ [(ra, .inl (Γ.2.1 2, q, .inl z_))]) H := hP
  have hD : va_D (AN N) ((wB Γ.2.1 b v cm ml n a) ++ [(ra, .inl (Γ.2.1 2, q, .inl z_))]) := hD
  refine lv_astore_n (lv' := [(2, .ref ra), (0, .ref v), (1, .int (nI q))]) hx hb dJ7_copyOf_9075b_17 rfl hl (by decide) rfl (fun ls hl => ?_)
  refine lv_aload_n hx hb dJ7_copyOf_9075b_18 rfl (lv_at hl 1 rfl) ?_
  refine lv_iconst (v := 0) hx hb dJ7_copyOf_9075b_19 (by decide) ?_
  refine lv_aload_n hx hb dJ7_copyOf_9075b_20 rfl (lv_at hl 0 rfl) ?_
  refine lv_iconst (v := 0) hx hb dJ7_copyOf_9075b_21 (by decide) ?_
  refine lv_aload_n hx hb dJ7_copyOf_9075b_22 rfl (lv_at hl 1 rfl) ?_
  refine va_alen (D := Γ.1) (v := nI cm) hx hb hK hP 1 2 rfl rfl rfl dJ7_copyOf_9075b_23 ?_
  refine lv_iload_n hx hb dJ7_copyOf_9075b_24 rfl (lv_at hl 2 rfl) ?_
  refine va_mmin hx hb (by rw [hml, hl.1]) hown (htg _ jm_304.1) (htg _ jm_304.2.1) (htg _ jm_304.2.2.1) (htg _ jm_304.2.2.2) (Nat.le_of_ble_eq_true rfl) (Nat.le_of_ble_eq_true rfl) (Nat.le_of_ble_eq_true rfl) (by show 0 + q ≤ 200; omega) dJ7_copyOf_9075b_25 ?_
  rw [if_neg (nI_nlt (show cm ≤ q by omega) (by omega))]
  have ec : (nI cm).toNatClampNeg = cm := nI_clamp (by omega)
  have e0 : (0 : Int32).toNatClampNeg = 0 := rfl
  refine va_copyi (D := Γ.1) (ty := .byte) hx hb (by rw [hml, hl.1]) hown (htg _ jm_150.1) (htg _ jm_150.2.1) (htg _ jm_150.2.2.1) (htg _ jm_150.2.2.2) hK hP hD hS 1 2 2 2 rfl rfl rfl rfl rfl (by decide) (by decide) (nI_pos (by omega)) (by rw [ec, e0]; omega) (by rw [ec, e0]; omega) (fun i _ => hf _) (Nat.le_of_ble_eq_true rfl) (Nat.le_of_ble_eq_true rfl) dJ7_copyOf_9075b_28 (fun H locs hP hD hS => ?_)
  rw [ec, e0] at hP hD
  refine lv_aload_n hx hb dJ7_copyOf_9075b_31 rfl (lv_at hl 0 rfl) ?_
  refine W.widen (k := 1) (n := 200) (Nat.le_of_ble_eq_true rfl) (by show 0 + q ≤ 200; omega) ?_
  exact W.aret (v := .ref ra) hx hb hr (Or.inr ⟨_, rfl⟩) (Or.inr ⟨ra, rfl⟩) (fun t ht hW => ⟨⟨(), ra, rfl, trivial, _, rfl, by rw [ht]; exact hP, hD⟩, hS.F ht⟩) hS.2.2 dJ7_copyOf_9075b_32 hnl
theorem cpy_lo {a z : Nat → Int32} {m j : Nat} (h : j < m) : va_cpy a z 0 0 m j = a j := by
  unfold va_cpy
  simp [h]
theorem jm_104 : MWp RJ5 104 yJ5_newCapacity_0f7a4 cJ5_newCapacity_0f7a4 6 (some .int) 1 := ⟨gw_t (tin4 (List.mem_of_getElem? (i := 138) rfl)) rfl, List.mem_filter.mpr ⟨tin4 (List.mem_of_getElem? (i := 139) rfl), rfl⟩, gw_t (tin4 (List.mem_of_getElem? (i := 140) rfl)) rfl, gw_t (tin1 (List.mem_of_getElem? (i := 27) rfl)) rfl, gw_t (tin4 (List.mem_of_getElem? (i := 141) rfl)) rfl, rfl, by decide +kernel⟩
theorem jm_108 : MWs RJ5 108 yJ7_copyOf_9075b cJ7_copyOf_9075b 3 (some (.array .byte)) 2 := ⟨gw_t (tin4 (List.mem_of_getElem? (i := 150) rfl)) rfl, gw_t (tin4 (List.mem_of_getElem? (i := 151) rfl)) rfl, gw_t (tin1 (List.mem_of_getElem? (i := 30) rfl)) rfl, gw_t (tin4 (List.mem_of_getElem? (i := 152) rfl)) rfl, by decide, by decide, by decide +kernel⟩
set_option maxHeartbeats 4000000 in
set_option maxRecDepth 100000 in
theorem q_ensure (l : Launch) (Γ : Wc) (N b v cm : Nat) (ml n : Int32) (a : Nat → Int32) (q : Nat) (hm : cm ≤ 130 ∧ q ≤ 64) (hf : sb_Fit a) : MBv l Γ N yJ5_ensureCapacityInternal_d00df cJ5_ensureCapacityInternal_d00df 3 3 90 1 200 [.ref b, .int (nI q)] (wB Γ.2.1 b v cm ml n a) (CP Γ.2.1 b ml n cm q a) := by
  refine MBv.of (by decide +kernel) (Nat.le_of_ble_eq_true rfl) ?_
  intro p e s m args below meth c ls cb hin hr hnl hP hD hl
  obtain ⟨⟨hx, hb, hml, hown, htg⟩, hK, hZ, hV, hN, hG⟩ := id cb
  have hS : va_S (AN N) s.heap s.heap [] := va_S.rf
  have hl : lv_has ls 3 [(0, .ref b), (1, .int (nI q))] := hl
  refine lv_aload_n hx hb dJ5_ensureCapacityInternal_d00df_0 rfl (lv_at hl 0 rfl) ?_
  refine va_get (D := Γ.1) (ref := RJ5) (ci := 12) (v := .ref v) (C := RJ4) (T := TJ4) (N := 4) hx hb htg inJ4 hown hK hP 0 rfl rfl 0 (by decide) (htg _ fb_15) (fun _ h9 => h9) rfl dJ5_ensureCapacityInternal_d00df_1 ?_
  refine va_alen (D := Γ.1) (v := nI cm) hx hb hK hP 1 2 rfl rfl rfl dJ5_ensureCapacityInternal_d00df_4 ?_
  refine lv_aload_n hx hb dJ5_ensureCapacityInternal_d00df_5 rfl (lv_at hl 0 rfl) ?_
  refine va_get (D := Γ.1) (ref := RJ5) (ci := 12) (v := .int 0) (C := RJ4) (T := TJ4) (N := 4) hx hb htg inJ4 hown hK hP 0 rfl rfl 1 (by decide) (htg _ fb_22) (fun _ h9 => h9) rfl dJ5_ensureCapacityInternal_d00df_6 ?_
  refine lv_ishr hx hb dJ5_ensureCapacityInternal_d00df_9 ?_
  rw [sb_shr0]
  refine lv_istore_n (lv' := [(2, .int (nI cm)), (0, .ref b), (1, .int (nI q))]) hx hb dJ5_ensureCapacityInternal_d00df_10 rfl hl (by decide) rfl (fun ls hl => ?_)
  refine lv_iload_n hx hb dJ5_ensureCapacityInternal_d00df_11 rfl (lv_at hl 2 rfl) ?_
  refine lv_iload_n hx hb dJ5_ensureCapacityInternal_d00df_12 rfl (lv_at hl 0 rfl) ?_
  refine lv_isub hx hb dJ5_ensureCapacityInternal_d00df_13 ?_
  have e1 : (nI q - nI cm).toInt = (q : Int) - cm := tv_sub (nI_toInt (by omega)) (nI_toInt (by omega)) (by omega)
  have z0 : (0 : Int32).toInt = 0 := rfl
  refine lv_if_le (tgt := 38) hx hb dJ5_ensureCapacityInternal_d00df_14 (by decide) (fun c1 => ?_) (fun c1 => ?_)
  · rw [le_iff, e1, z0] at c1
    refine W.widen (k := 1) (n := 200) (Nat.zero_le _) (Nat.zero_le _) ?_
    exact W.vret hx hb hr (fun t ht hW => ⟨⟨(), rfl, trivial, _, ⟨v, cm, a, rfl, by omega, Nat.le_refl _, hm.1, hf, fun _ _ => rfl⟩, by rw [ht]; exact hP, hD⟩, hS.F ht⟩) hS.2.2 dJ5_ensureCapacityInternal_d00df_38 hnl
  rw [le_iff, e1, z0] at c1
  refine lv_aload_n hx hb dJ5_ensureCapacityInternal_d00df_17 rfl (lv_at hl 1 rfl) ?_
  refine lv_aload_n hx hb dJ5_ensureCapacityInternal_d00df_18 rfl (lv_at hl 1 rfl) ?_
  refine va_get (D := Γ.1) (ref := RJ5) (ci := 12) (v := .ref v) (C := RJ4) (T := TJ4) (N := 4) hx hb htg inJ4 hown hK hP 0 rfl rfl 0 (by decide) (htg _ fb_15) (fun _ h9 => h9) rfl dJ5_ensureCapacityInternal_d00df_19 ?_
  refine lv_aload_n hx hb dJ5_ensureCapacityInternal_d00df_22 rfl (lv_at hl 1 rfl) ?_
  refine lv_iload_n hx hb dJ5_ensureCapacityInternal_d00df_23 rfl (lv_at hl 2 rfl) ?_
  refine va_calli (va_runP (As := [.int (nI q)]) (rest := [.ref v, .ref b]) ⟨hx, hb, hml, hown, htg⟩ hV (q_newCapacity l Γ N b v cm ml n a q (by omega)) jm_104 ⟨Nat.le_of_ble_eq_true rfl, Nat.le_of_ble_eq_true rfl⟩ ⟨PB.blind, sb_recv hK hP, fun U hU hW => ⟨rfl, pbU cb hP hD hS hU hW⟩⟩ rfl rfl hl.1 rfl (lv_room (Nat.le_of_ble_eq_true rfl)) dJ5_ensureCapacityInternal_d00df_24 ⟨Nat.zero_le _, Nat.zero_le _⟩) hS (fun q _ h => h) (fun q h => h) (fun r u t H locs ht hvm hw hB hz1 hk1 hS => ?_)
  subst hw
  have hP : va_P Γ.1 vwCl (wB Γ.2.1 b v cm ml n a) H := by rw [← ht]; exact hB
  refine lv_aload_n hx hb dJ5_ensureCapacityInternal_d00df_27 rfl (lv_at hl 1 rfl) ?_
  refine va_get (D := Γ.1) (ref := RJ5) (ci := 12) (v := .int 0) (C := RJ4) (T := TJ4) (N := 4) hx hb htg inJ4 hown hK hP 0 rfl rfl 1 (by decide) (htg _ fb_22) (fun _ h9 => h9) rfl dJ5_ensureCapacityInternal_d00df_28 ?_
  refine lv_ishl hx hb dJ5_ensureCapacityInternal_d00df_31 ?_
  rw [sb_shl0]
  have hq2 : q ≤ cm + max (q - cm) (cm + 2) ∧ cm < cm + max (q - cm) (cm + 2) ∧ cm + max (q - cm) (cm + 2) ≤ 130 := by omega
  generalize cm + max (q - cm) (cm + 2) = q2 at hq2 ⊢
  refine va_callr (va_runS (As := [.ref v, .int (nI q2)]) (rest := [.ref b]) ⟨hx, hb, hml, hown, htg⟩ (q_copyOf l Γ N b v cm ml n a q2 (by omega) hf) (jm_108.call0 htg ⟨Nat.le_of_ble_eq_true rfl, Nat.le_of_ble_eq_true rfl⟩) ⟨PB.blind, fun U hU hW => ⟨rfl, pbU cb hP hD hS hU hW⟩⟩ rfl rfl hl.1 rfl (lv_room (Nat.le_of_ble_eq_true rfl)) dJ5_ensureCapacityInternal_d00df_32 ⟨Nat.le_of_ble_eq_true rfl, Nat.le_of_ble_eq_true rfl⟩) hS (fun q _ h => h) (fun q h => h) (fun u ra t H locs ht hvm hw hB hz1 hk1 hS => ?_)
  obtain ⟨w1, rfl, hP, hD⟩ := hB
  rw [ht] at hP
  refine va_put (D := Γ.1) (ref := RJ5) (ci := 12) (v := .ref ra) (ty := .array .byte) (C := RJ4) (T := TJ4) (N := 4) hx hb htg inJ4 tyJ4 tyJ4_ok nmJ4 hown hK hP hD hS 0 rfl rfl 0 (by decide) (htg _ fb_15) (fun _ h9 => h9) rfl (by decide +kernel) rfl rfl (Nat.le_of_ble_eq_true rfl) dJ5_ensureCapacityInternal_d00df_35 (fun H locs hP hD hS => ?_)
  have hP : va_P Γ.1 vwCl (wB Γ.2.1 b ra q2 ml n (va_cpy a z_ 0 0 cm)) H := hP.sub [0, 2] rfl
  have hD : va_D (AN N) (wB Γ.2.1 b ra q2 ml n (va_cpy a z_ 0 0 cm)) := hD.sub [0, 2] (by decide) rfl
  exact W.vret hx hb hr (fun t ht hW => ⟨⟨(), rfl, trivial, _, ⟨ra, q2, _, rfl, hq2.1, by omega, hq2.2.2, sb_fitC hf sb_fit0, fun j hj => cpy_lo hj⟩, by rw [ht]; exact hP, hD⟩, hS.F ht⟩) hS.2.2 dJ5_ensureCapacityInternal_d00df_38 hnl
set_option maxHeartbeats 4000000 in
set_option maxRecDepth 100000 in
theorem q_isLatin1 (l : Launch) (Γ : Wc) (N b v cm : Nat) (ml n : Int32) (a : Nat → Int32) : MBi l Γ N yJ5_isLatin1_aae02 cJ5_isLatin1_aae02 1 (some .boolean) 0 0 [.ref b] (wB Γ.2.1 b v cm ml n a) 1 := by
  refine MBi.of (by decide +kernel) (Nat.le_of_ble_eq_true rfl) ?_
  intro p e s m args below meth c ls cb hr hnl hP hD hl
  obtain ⟨⟨hx, hb, hml, hown, htg⟩, hK, hZ, hV, hN, hG⟩ := id cb
  have hS : va_S (AN N) s.heap s.heap [] := va_S.rf
  have hl : lv_has ls 1 [(0, .ref b)] := hl
  refine va_gets hx hb hZ.2.2.1 hS hown (htg _ fb_cs) (fun _ h => h) dJ5_isLatin1_aae02_0 ?_
  refine lv_if_eq (tgt := 17) hx hb dJ5_isLatin1_aae02_3 (by decide) (fun c1 => False.elim (absurd c1 (by decide))) (fun c1 => ?_)
  refine lv_aload_n hx hb dJ5_isLatin1_aae02_6 rfl (lv_at hl 0 rfl) ?_
  refine va_get (D := Γ.1) (ref := RJ5) (ci := 12) (v := .int 0) (C := RJ4) (T := TJ4) (N := 4) hx hb htg inJ4 hown hK hP 0 rfl rfl 1 (by decide) (htg _ fb_22) (fun _ h9 => h9) rfl dJ5_isLatin1_aae02_7 ?_
  refine lv_if_ne (tgt := 17) hx hb dJ5_isLatin1_aae02_10 (by decide) (fun c1 => False.elim (c1 rfl)) (fun c1 => ?_)
  refine lv_iconst (v := 1) hx hb dJ5_isLatin1_aae02_13 (by decide) ?_
  refine lv_goto (tgt := 18) hx hb dJ5_isLatin1_aae02_14 (by decide) ?_
  exact W.zret (v := 1) hx hb hr (by decide) (fun t ht hW => ⟨⟨_, (), rfl, rfl, by show va_P Γ.1 vwCl (wB Γ.2.1 b v cm ml n a) t.heap; rw [ht]; exact hP⟩, hS.F ht⟩) hS.2.2 dJ5_isLatin1_aae02_18 hnl
set_option maxHeartbeats 4000000 in
set_option maxRecDepth 100000 in
theorem q_canEncode (l : Launch) (Γ : Wc) (N : Nat) (w : va_W) (ch : Nat) (hc : ch < 256) : MBi l Γ N yJ1_canEncode_fc78d cJ1_canEncode_fc78d 1 (some .boolean) 0 0 [.int (nI ch)] w 1 := by
  refine MBi.of (by decide +kernel) (Nat.le_of_ble_eq_true rfl) ?_
  intro p e s m args below meth c ls cb hr hnl hP hD hl
  obtain ⟨⟨hx, hb, hml, hown, htg⟩, hK, hZ, hV, hN, hG⟩ := id cb
  have hS : va_S (AN N) s.heap s.heap [] := va_S.rf
  have hl : lv_has ls 1 [(0, .int (nI ch))] := hl
  refine lv_iload_n hx hb dJ1_canEncode_fc78d_0 rfl (lv_at hl 0 rfl) ?_
  refine lv_sipush (v := 255) hx hb dJ1_canEncode_fc78d_1 (by decide) ?_
  refine lv_icmp_gt (tgt := 11) hx hb dJ1_canEncode_fc78d_4 (by decide) (fun c1 => False.elim (absurd c1 (by show ¬ nI 255 < nI ch; exact nI_nlt (by omega) (by decide)))) (fun c1 => ?_)
  refine lv_iconst (v := 1) hx hb dJ1_canEncode_fc78d_7 (by decide) ?_
  refine lv_goto (tgt := 12) hx hb dJ1_canEncode_fc78d_8 (by decide) ?_
  exact W.zret (v := 1) hx hb hr (by decide) (fun t ht hW => ⟨⟨_, (), rfl, rfl, by show va_P Γ.1 vwCl w t.heap; rw [ht]; exact hP⟩, hS.F ht⟩) hS.2.2 dJ1_canEncode_fc78d_12 hnl
