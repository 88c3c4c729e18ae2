/-! printed: StringBuilder's append(char), append(int) -/
theorem jm_100 : MWp RJ5 100 yJ5_ensureCapacityInternal_d00df cJ5_ensureCapacityInternal_d00df 3 none 1 := ⟨gw_t (tin4 (List.mem_of_getElem? (i := 134) rfl)) rfl, List.mem_filter.mpr ⟨tin4 (List.mem_of_getElem? (i := 135) rfl), rfl⟩, gw_t (tin4 (List.mem_of_getElem? (i := 136) rfl)) rfl, gw_t (tin1 (List.mem_of_getElem? (i := 27) rfl)) rfl, gw_t (tin4 (List.mem_of_getElem? (i := 137) rfl)) rfl, rfl, by decide +kernel⟩
theorem jm_83 {R : Room} {s : State} {args : Array Value} (htg : ∀ w ∈ gw, w.before args s = true) (hR : 0 + 1 ≤ R.frames ∧ 8 + (1 + 11) + 0 ≤ R.locals) : va_CU R s args RJ5 RJ4 RJ5 83 yJ5_isLatin1_aae02 yJ5_isLatin1_aae02 cJ5_isLatin1_aae02 1 (some .boolean) (Wsd yJ5_isLatin1_aae02 cJ5_isLatin1_aae02 1 (some .boolean)) { frames := 0, cells := 0, slots := 0, locals := 0 } 0 0 0 := va_cwU 0 htg (gw_app (a := [.methodLink RJ5 83 yJ5_isLatin1_aae02, .sameMethod RJ5 RJ5 "isLatin1" "()Z", .selects RJ4 yJ5_isLatin1_aae02 yJ5_isLatin1_aae02, .instanceMethod yJ5_isLatin1_aae02, .initialized RJ5]) (List.forall_mem_cons.mpr ⟨gw_t (tin4 (List.mem_of_getElem? (i := 162) rfl)) rfl, List.forall_mem_cons.mpr ⟨gw_t (tin4 (List.mem_of_getElem? (i := 164) rfl)) rfl, List.forall_mem_cons.mpr ⟨gw_t (tin4 (List.mem_of_getElem? (i := 165) rfl)) rfl, List.forall_mem_cons.mpr ⟨gw_t (tin4 (List.mem_of_getElem? (i := 163) rfl)) rfl, List.forall_mem_cons.mpr ⟨gw_t (tin1 (List.mem_of_getElem? (i := 27) rfl)) rfl, fun _ h => absurd h List.not_mem_nil⟩⟩⟩⟩⟩) (gw_cons (gw_t (tin4 (List.mem_of_getElem? (i := 166) rfl)) rfl))) rfl rfl rfl rfl (by decide +kernel) hR
theorem jm_191 : MWs RJ5 191 yJ1_canEncode_fc78d cJ1_canEncode_fc78d 1 (some .boolean) 1 := ⟨gw_t (tin4 (List.mem_of_getElem? (i := 234) rfl)) rfl, gw_t (tin4 (List.mem_of_getElem? (i := 235) rfl)) rfl, gw_t (tin1 (List.mem_of_getElem? (i := 15) rfl)) rfl, gw_t (tin4 (List.mem_of_getElem? (i := 236) rfl)) rfl, by decide, by decide, by decide +kernel⟩
theorem nar_sb (c : Nat) : vp_nar .byte (sb_b c) = sb_b c := by
  have h : ∀ x : Int32, vp_nar .byte x = x.toInt8.toInt32 := fun x => by first | rfl | simp [vp_nar, narrow]
  rw [h]
  unfold sb_b
  simp
set_option maxHeartbeats 4000000 in
set_option maxRecDepth 100000 in
theorem q_appendC (l : Launch) (Γ : Wc) (N b v cm : Nat) (ml : Int32) (n : Nat) (a : Nat → Int32) (t : Nat → Nat) (ch : Nat) (hm : n ≤ cm ∧ cm ≤ 130 ∧ n < 64) (hf : sb_Fit a) (hL : sb_Lat t n a) (hc : ch < 256) : MBr l Γ N yJ5_append_3fe6f cJ5_append_3fe6f 2 (some (.object RJ5)) 4 120 1 200 [.ref b, .int (nI ch)] (wB Γ.2.1 b v cm ml (nI n) a) (fun ra w1 => ra = b ∧ TB Γ.2.1 b (sb_cat t n (fun _ => ch)) (n + 1) w1) := by
  refine MBr.of (by decide +kernel) (Nat.le_of_ble_eq_true rfl) ?_
  intro p e s m args below meth c ls cb hr hnl hP hD hl
  obtain ⟨⟨hx, hb, hml, hown, htg⟩, hK, hZ, hV, hN, hG⟩ := id cb
  have hS : va_S (AN N) s.heap s.heap [] := va_S.rf
  have hl : lv_has ls 2 [(0, .ref b), (1, .int (nI ch))] := hl
  refine lv_aload_n hx hb dJ5_append_3fe6f_0 rfl (lv_at hl 0 rfl) ?_
  refine lv_aload_n hx hb dJ5_append_3fe6f_1 rfl (lv_at hl 0 rfl) ?_
  refine va_get (D := Γ.1) (ref := RJ5) (ci := 12) (v := .int (nI n)) (C := RJ4) (T := TJ4) (N := 4) hx hb htg inJ4 hown hK hP 0 rfl rfl 3 (by decide) (htg _ fb_79) (fun _ h9 => h9) rfl dJ5_append_3fe6f_2 ?_
  refine lv_iconst (v := 1) hx hb dJ5_append_3fe6f_5 (by decide) ?_
  refine lv_iadd hx hb dJ5_append_3fe6f_6 ?_
  rw [show nI n + 1 = nI (n + 1) from nI_add n 1]
  refine va_callv (va_runP (As := [.int (nI (n + 1))]) (rest := []) ⟨hx, hb, hml, hown, htg⟩ hV (q_ensure l Γ N b v cm ml (nI n) a (n + 1) (by omega) hf) jm_100 ⟨Nat.le_of_ble_eq_true rfl, Nat.le_of_ble_eq_true rfl⟩ ⟨PB.blind, sb_recv hK hP, fun U hU hW => ⟨rfl, pbU cb hP hD hS hU hW⟩⟩ rfl rfl hl.1 rfl (lv_room (Nat.le_of_ble_eq_true rfl)) dJ5_append_3fe6f_7 ⟨Nat.le_of_ble_eq_true rfl, Nat.le_of_ble_eq_true rfl⟩) hS (fun q _ h => h) (fun q h => h) (fun u t H locs ht hvm hw hB hz1 hk1 hS => ?_)
  obtain ⟨w1, ⟨v, m', a', rfl, hq1, hq2, hq3, hf', ha'⟩, hP, hD⟩ := hB
  rw [ht] at hP
  have hL' := sb_latKeep (a' := a') hL (fun j hj => ha' j (by omega))
  clear hf ha' hL
  have hnm : n ≤ m' := by omega
  clear hq2
  refine lv_aload_n hx hb dJ5_append_3fe6f_10 rfl (lv_at hl 0 rfl) ?_
  refine va_calli (va_runU (C := RJ4) (owner := RJ5) (As := []) (rest := []) ⟨hx, hb, hml, hown, htg⟩ (q_isLatin1 l Γ N b v m' ml (nI n) a') (jm_83 htg ⟨Nat.le_of_ble_eq_true rfl, Nat.le_of_ble_eq_true rfl⟩) ⟨PB.blind, sb_recv hK hP, fun U hU hW => ⟨rfl, pbU cb hP hD hS hU hW⟩⟩ rfl rfl hl.1 rfl (lv_room (Nat.le_of_ble_eq_true rfl)) dJ5_append_3fe6f_11 ⟨Nat.le_of_ble_eq_true rfl, Nat.le_of_ble_eq_true rfl⟩) hS (fun q _ h => h) (fun q h => h) (fun r u t H locs ht hvm hw hB hz1 hk1 hS => ?_)
  subst hw
  have hP : va_P Γ.1 vwCl (wB Γ.2.1 b v m' ml (nI n) a') H := by rw [← ht]; exact hB
  refine lv_if_eq (tgt := 45) hx hb dJ5_append_3fe6f_14 (by decide) (fun c1 => False.elim (absurd c1 (by decide))) (fun c1 => ?_)
  refine lv_iload_n hx hb dJ5_append_3fe6f_17 rfl (lv_at hl 1 rfl) ?_
  refine va_calli (va_runS (As := [.int (nI ch)]) (rest := []) ⟨hx, hb, hml, hown, htg⟩ (q_canEncode l Γ N (wB Γ.2.1 b v m' ml (nI n) a') ch hc) (jm_191.call0 htg ⟨Nat.le_of_ble_eq_true rfl, Nat.le_of_ble_eq_true rfl⟩) ⟨PB.blind, fun U hU hW => ⟨rfl, pbU cb hP hD hS hU hW⟩⟩ rfl rfl hl.1 rfl (lv_room (Nat.le_of_ble_eq_true rfl)) dJ5_append_3fe6f_18 ⟨Nat.le_of_ble_eq_true rfl, Nat.le_of_ble_eq_true rfl⟩) hS (fun q _ h => h) (fun q h => h) (fun r u t H locs ht hvm hw hB hz1 hk1 hS => ?_)
  subst hw
  have hP : va_P Γ.1 vwCl (wB Γ.2.1 b v m' ml (nI n) a') H := by rw [← ht]; exact hB
  refine lv_if_eq (tgt := 45) hx hb dJ5_append_3fe6f_21 (by decide) (fun c1 => False.elim (absurd c1 (by decide))) (fun c1 => ?_)
  refine lv_aload_n hx hb dJ5_append_3fe6f_24 rfl (lv_at hl 0 rfl) ?_
  refine va_get (D := Γ.1) (ref := RJ5) (ci := 12) (v := .ref v) (C := RJ4) (T := TJ4) (N := 4) hx hb htg inJ4 hown hK hP 0 rfl rfl 0 (by decide) (htg _ fb_15) (fun _ h9 => h9) rfl dJ5_append_3fe6f_25 ?_
  refine lv_aload_n hx hb dJ5_append_3fe6f_28 rfl (lv_at hl 0 rfl) ?_
  refine lv_dup hx hb dJ5_append_3fe6f_29 rfl ?_
  refine va_get (D := Γ.1) (ref := RJ5) (ci := 12) (v := .int (nI n)) (C := RJ4) (T := TJ4) (N := 4) hx hb htg inJ4 hown hK hP 0 rfl rfl 3 (by decide) (htg _ fb_79) (fun _ h9 => h9) rfl dJ5_append_3fe6f_30 ?_
  refine lv_dup_x1 hx hb dJ5_append_3fe6f_33 rfl rfl ?_
  refine lv_iconst (v := 1) hx hb dJ5_append_3fe6f_34 (by decide) ?_
  refine lv_iadd hx hb dJ5_append_3fe6f_35 ?_
  rw [show nI n + 1 = nI (n + 1) from nI_add n 1]
  refine va_put (D := Γ.1) (ref := RJ5) (ci := 12) (v := .int (nI (n + 1))) (ty := .int) (C := RJ4) (T := TJ4) (N := 4) hx hb htg inJ4 tyJ4 tyJ4_ok nmJ4 hown hK hP hD hS 0 rfl rfl 3 (by decide) (htg _ fb_79) (fun _ h9 => h9) rfl (by decide +kernel) rfl rfl (Nat.le_of_ble_eq_true rfl) dJ5_append_3fe6f_36 (fun H locs hP hD hS => ?_)
  have hP : va_P Γ.1 vwCl (wB Γ.2.1 b v m' ml (nI (n + 1)) a') H := hP
  have hD : va_D (AN N) (wB Γ.2.1 b v m' ml (nI (n + 1)) a') := hD
  refine lv_iload_n hx hb dJ5_append_3fe6f_39 rfl (lv_at hl 1 rfl) ?_
  refine lv_i2b hx hb dJ5_append_3fe6f_40 rfl ?_
  refine va_bast (D := Γ.1) hx hb hK hP hD hS 1 2 rfl rfl (nI_in (show n < m' by omega) (by omega)) dJ5_append_3fe6f_41 (fun H locs hP hD hS => ?_)
  rw [nI_clamp (show n < 2 ^ 31 by omega), show vp_nar .byte (nI ch).toInt8.toInt32 = sb_b ch from nar_sb ch] at hP hD
  have hP : va_P Γ.1 vwCl (wB Γ.2.1 b v m' ml (nI (n + 1)) (upd a' n (sb_b ch))) H := hP
  have hD : va_D (AN N) (wB Γ.2.1 b v m' ml (nI (n + 1)) (upd a' n (sb_b ch))) := hD
  refine lv_goto (tgt := 75) hx hb dJ5_append_3fe6f_42 (by decide) ?_
  refine lv_aload_n hx hb dJ5_append_3fe6f_75 rfl (lv_at hl 0 rfl) ?_
  refine W.widen (k := 1) (n := 200) (Nat.le_of_ble_eq_true rfl) (Nat.le_of_ble_eq_true rfl) ?_
  exact W.aret (v := .ref b) hx hb hr (Or.inl ⟨_, rfl⟩) (Or.inr ⟨b, rfl⟩) (fun t ht hW => ⟨⟨(), b, rfl, trivial, _, ⟨rfl, v, m', ml, _, rfl, hq1, hq3, sb_fitU hf' (sb_fitB ch), sb_latPut hL' (fun j hj => upd_ne _ _ (by omega)) (fun i hi => ⟨hc, by rw [show n + i = n by omega, upd_at]⟩)⟩, by rw [ht]; exact hP, hD⟩, hS.F ht⟩) hS.2.2 dJ5_append_3fe6f_76 hnl
theorem jm_50 : MWu RJ4 50 yJ5_append_3fe6f cJ5_append_3fe6f 2 (some (.object RJ5)) 1 := ⟨gw_t (tin4 (List.mem_of_getElem? (i := 231) rfl)) rfl, gw_t (tin4 (List.mem_of_getElem? (i := 128) rfl)) rfl, gw_t (tin4 (List.mem_of_getElem? (i := 232) rfl)) rfl, gw_t (tin1 (List.mem_of_getElem? (i := 27) rfl)) rfl, gw_t (tin4 (List.mem_of_getElem? (i := 233) rfl)) rfl, rfl, by decide, by decide +kernel⟩
set_option maxHeartbeats 4000000 in
set_option maxRecDepth 100000 in
theorem q4_appendC (l : Launch) (Γ : Wc) (N b v cm : Nat) (ml : Int32) (n : Nat) (a : Nat → Int32) (t : Nat → Nat) (ch : Nat) (hm : n ≤ cm ∧ cm ≤ 130 ∧ n < 64) (hf : sb_Fit a) (hL : sb_Lat t n a) (hc : ch < 256) : MBr l Γ N yJ4_append_cf468 cJ4_append_cf468 2 (some (.object RJ4)) 5 150 1 200 [.ref b, .int (nI ch)] (wB Γ.2.1 b v cm ml (nI n) a) (fun ra w1 => ra = b ∧ TB Γ.2.1 b (sb_cat t n (fun _ => ch)) (n + 1) w1) := by
  refine MBr.of (by decide +kernel) (Nat.le_of_ble_eq_true rfl) ?_
  intro p e s m args below meth c ls cb hr hnl hP hD hl
  obtain ⟨⟨hx, hb, hml, hown, htg⟩, hK, hZ, hV, hN, hG⟩ := id cb
  have hS : va_S (AN N) s.heap s.heap [] := va_S.rf
  have hl : lv_has ls 2 [(0, .ref b), (1, .int (nI ch))] := hl
  refine lv_aload_n hx hb dJ4_append_cf468_0 rfl (lv_at hl 0 rfl) ?_
  refine lv_iload_n hx hb dJ4_append_cf468_1 rfl (lv_at hl 1 rfl) ?_
  refine va_callr (va_runZ (As := [.int (nI ch)]) (rest := []) (sbAt hK) ⟨hx, hb, hml, hown, htg⟩ (q_appendC l Γ N b v cm ml n a t ch hm hf hL hc) jm_50 ⟨Nat.le_of_ble_eq_true rfl, Nat.le_of_ble_eq_true rfl⟩ ⟨PB.blind, sb_recv hK hP, fun U hU hW => ⟨rfl, pbU cb hP hD hS hU hW⟩⟩ rfl rfl hl.1 rfl (lv_room (Nat.le_of_ble_eq_true rfl)) dJ4_append_cf468_2 ⟨Nat.le_of_ble_eq_true rfl, Nat.le_of_ble_eq_true rfl⟩) hS (fun q _ h => h) (fun q h => h) (fun u ra t1 H locs ht hvm hw hB hz1 hk1 hS => ?_)
  obtain ⟨w1, ⟨rfl, hT⟩, hP, hD⟩ := hB
  rw [ht] at hP
  refine lv_pop hx hb dJ4_append_cf468_5 rfl ?_
  refine lv_aload_n hx hb dJ4_append_cf468_6 rfl (lv_at hl 0 rfl) ?_
  exact W.aret (v := .ref ra) hx hb hr (Or.inl ⟨_, rfl⟩) (Or.inr ⟨ra, rfl⟩) (fun t ht hW => ⟨⟨(), ra, rfl, trivial, w1, ⟨rfl, hT⟩, by rw [ht]; exact hP, hD⟩, hS.F ht⟩) hS.2.2 dJ4_append_cf468_7 hnl
theorem neg_dec : ∀ x : Fin 100, (-nI x.1 ≤ -10 ↔ 10 ≤ x.1) ∧ ¬ -nI x.1 ≤ -100 ∧ ¬ nI x.1 < 0 ∧ 0 ≤ nI x.1 ∧ -(-nI x.1) = nI x.1 ∧ -100 < -nI x.1 ∧ (-9 ≤ -nI x.1 ↔ x.1 < 10) ∧ sb_dg x.1 = (if x.1 < 10 then 1 else 2) ∧ sb_b (48 + x.1 % 10) = nI (48 + x.1 % 10) ∧ sb_b (48 + x.1 / 10) = nI (48 + x.1 / 10) ∧ vp_nar .byte (nI (48 + x.1 % 10)) = nI (48 + x.1 % 10) ∧ vp_nar .byte (nI (48 + x.1 / 10)) = nI (48 + x.1 / 10) ∧ sb_dec x.1 (sb_dg x.1 - 1) = 48 + x.1 % 10 ∧ (10 ≤ x.1 → sb_dec x.1 0 = 48 + x.1 / 10) := by decide +kernel
set_option maxHeartbeats 4000000 in
set_option maxRecDepth 100000 in
theorem q_stringSize (l : Launch) (Γ : Wc) (N : Nat) (w : va_W) (x : Nat) (hx9 : x < 100) : MBi l Γ N yJ6_stringSize_0f7a4 cJ6_stringSize_0f7a4 4 (some .int) 0 0 [.int (nI x)] w (nI (sb_dg x)) := by
  refine MBi.of (by decide +kernel) (Nat.le_of_ble_eq_true rfl) ?_
  intro p e s m args below meth c ls cb hr hnl hP hD hl
  obtain ⟨⟨hx, hb, hml, hown, htg⟩, hK, hZ, hV, hN, hG⟩ := id cb
  have hS : va_S (AN N) s.heap s.heap [] := va_S.rf
  have hl : lv_has ls 4 [(0, .int (nI x))] := hl
  obtain ⟨d1, d2, d3, d4, d5, d6, d7, d8, -⟩ := neg_dec ⟨x, hx9⟩
  dsimp only at d1 d2 d3 d4 d5 d6 d7 d8
  refine lv_iconst (v := 1) hx hb dJ6_stringSize_0f7a4_0 (by decide) ?_
  refine lv_istore_n (lv' := [(1, .int 1), (0, .int (nI x))]) hx hb dJ6_stringSize_0f7a4_1 rfl hl (by decide) rfl (fun ls hl => ?_)
  refine lv_iload_n hx hb dJ6_stringSize_0f7a4_2 rfl (lv_at hl 1 rfl) ?_
  refine lv_if_lt (tgt := 11) hx hb dJ6_stringSize_0f7a4_3 (by decide) (fun c1 => False.elim (absurd c1 d3)) (fun c1 => ?_)
  refine lv_iconst (v := 0) hx hb dJ6_stringSize_0f7a4_6 (by decide) ?_
  refine lv_istore_n (lv' := [(1, .int 0), (0, .int (nI x))]) hx hb dJ6_stringSize_0f7a4_7 rfl hl (by decide) rfl (fun ls hl => ?_)
  refine lv_iload_n hx hb dJ6_stringSize_0f7a4_8 rfl (lv_at hl 1 rfl) ?_
  refine lv_ineg hx hb dJ6_stringSize_0f7a4_9 ?_
  refine lv_istore_n (lv' := [(0, .int (-(nI x))), (1, .int 0)]) hx hb dJ6_stringSize_0f7a4_10 rfl hl (by decide) rfl (fun ls hl => ?_)
  refine lv_bipush (v := (-10)) hx hb dJ6_stringSize_0f7a4_11 (by decide) ?_
  refine lv_istore_n (lv' := [(2, .int (-10)), (0, .int (-(nI x))), (1, .int 0)]) hx hb dJ6_stringSize_0f7a4_13 rfl hl (by decide) rfl (fun ls hl => ?_)
  refine lv_iconst (v := 1) hx hb dJ6_stringSize_0f7a4_14 (by decide) ?_
  refine lv_istore_n (lv' := [(3, .int 1), (2, .int (-10)), (0, .int (-(nI x))), (1, .int 0)]) hx hb dJ6_stringSize_0f7a4_15 rfl hl (by decide) rfl (fun ls hl => ?_)
  refine lv_iload_n hx hb dJ6_stringSize_0f7a4_16 rfl (lv_at hl 0 rfl) ?_
  refine lv_bipush (v := 10) hx hb dJ6_stringSize_0f7a4_17 (by decide) ?_
  refine lv_icmp_ge (tgt := 42) hx hb dJ6_stringSize_0f7a4_19 (by decide) (fun c1 => False.elim (absurd c1 (by decide))) (fun c1 => ?_)
  refine lv_iload_n hx hb dJ6_stringSize_0f7a4_22 rfl (lv_at hl 2 rfl) ?_
  refine lv_iload_n hx hb dJ6_stringSize_0f7a4_23 rfl (lv_at hl 1 rfl) ?_
  refine lv_icmp_le (tgt := 31) hx hb dJ6_stringSize_0f7a4_24 (by decide) (fun c1 => ?_) (fun c1 => ?_)
  · have hx10 : 10 ≤ x := d1.mp c1
    refine lv_bipush (v := 10) hx hb dJ6_stringSize_0f7a4_31 (by decide) ?_
    refine lv_iload_n hx hb dJ6_stringSize_0f7a4_33 rfl (lv_at hl 1 rfl) ?_
    refine lv_imul hx hb dJ6_stringSize_0f7a4_34 ?_
    rw [show (10 : Int32) * -10 = -100 from by decide]
    refine lv_istore_n (lv' := [(2, .int (-100)), (3, .int 1), (0, .int (-(nI x))), (1, .int 0)]) hx hb dJ6_stringSize_0f7a4_35 rfl hl (by decide) rfl (fun ls hl => ?_)
    refine lv_iinc (v := 2) (lv' := [(3, .int 2), (2, .int (-100)), (0, .int (-(nI x))), (1, .int 0)]) hx hb dJ6_stringSize_0f7a4_36 hl (k := 1) rfl (by decide) (by decide) rfl (fun ls hl => ?_)
    refine lv_goto (tgt := 16) hx hb dJ6_stringSize_0f7a4_39 (by decide) ?_
    refine lv_iload_n hx hb dJ6_stringSize_0f7a4_16 rfl (lv_at hl 0 rfl) ?_
    refine lv_bipush (v := 10) hx hb dJ6_stringSize_0f7a4_17 (by decide) ?_
    refine lv_icmp_ge (tgt := 42) hx hb dJ6_stringSize_0f7a4_19 (by decide) (fun c1 => False.elim (absurd c1 (by decide))) (fun c1 => ?_)
    refine lv_iload_n hx hb dJ6_stringSize_0f7a4_22 rfl (lv_at hl 2 rfl) ?_
    refine lv_iload_n hx hb dJ6_stringSize_0f7a4_23 rfl (lv_at hl 1 rfl) ?_
    refine lv_icmp_le (tgt := 31) hx hb dJ6_stringSize_0f7a4_24 (by decide) (fun c1 => False.elim (absurd c1 d2)) (fun c1 => ?_)
    refine lv_iload_n hx hb dJ6_stringSize_0f7a4_27 rfl (lv_at hl 0 rfl) ?_
    refine lv_iload_n hx hb dJ6_stringSize_0f7a4_28 rfl (lv_at hl 3 rfl) ?_
    refine lv_iadd hx hb dJ6_stringSize_0f7a4_29 ?_
    rw [show (2 : Int32) + 0 = nI (sb_dg x) from by rw [d8, if_neg (by omega)]; rfl]
    exact W.iret (v := nI (sb_dg x)) hx hb hr (fun t ht hW => ⟨⟨_, (), rfl, rfl, by show va_P Γ.1 vwCl w t.heap; rw [ht]; exact hP⟩, hS.F ht⟩) hS.2.2 dJ6_stringSize_0f7a4_30 hnl
  · have hx10 : x < 10 := Nat.not_le.mp (fun z => c1 (d1.mpr z))
    refine lv_iload_n hx hb dJ6_stringSize_0f7a4_27 rfl (lv_at hl 0 rfl) ?_
    refine lv_iload_n hx hb dJ6_stringSize_0f7a4_28 rfl (lv_at hl 3 rfl) ?_
    refine lv_iadd hx hb dJ6_stringSize_0f7a4_29 ?_
    rw [show (1 : Int32) + 0 = nI (sb_dg x) from by rw [d8, if_pos hx10]; rfl]
    exact W.iret (v := nI (sb_dg x)) hx hb hr (fun t ht hW => ⟨⟨_, (), rfl, rfl, by show va_P Γ.1 vwCl w t.heap; rw [ht]; exact hP⟩, hS.F ht⟩) hS.2.2 dJ6_stringSize_0f7a4_30 hnl
theorem dec1 {k : Nat} (h : 1 ≤ k) : nI k + -1 = nI (k - 1) := by
  obtain ⟨j, rfl⟩ : ∃ j, k = j + 1 := ⟨k - 1, by omega⟩
  rw [Nat.add_sub_cancel, ← nI_pred j]
  grind
theorem fd_83 : Cond.fieldLink RJ6 83 "java/lang/Integer" "DigitOnes" "[B" ∈ gw := gw_t (tin5 (List.mem_of_getElem? (i := 13) rfl)) rfl
theorem fd_87 : Cond.fieldLink RJ6 87 "java/lang/Integer" "DigitTens" "[B" ∈ gw := gw_t (tin5 (List.mem_of_getElem? (i := 15) rfl)) rfl
set_option maxHeartbeats 4000000 in
set_option maxRecDepth 100000 in
theorem q_getChars (l : Launch) (Γ : Wc) (N b v cm : Nat) (ml nn : Int32) (a : Nat → Int32) (n x : Nat) (hx9 : x < 100) (hm : n + sb_dg x ≤ cm ∧ cm ≤ 130) (hf : sb_Fit a) : MBw l Γ N yJ6_getChars_ba4f3 cJ6_getChars_ba4f3 7 0 0 0 0 [.int (nI x), .int (nI (n + sb_dg x)), .ref v] (wB Γ.2.1 b v cm ml nn a) (fun _ w1 => ∃ a', w1 = wB Γ.2.1 b v cm ml nn a' ∧ sb_Fit a' ∧ (∀ j, j < n → a' j = a j) ∧ ∀ i, i < sb_dg x → sb_dec x i < 256 ∧ a' (n + i) = sb_b (sb_dec x i)) := by
  refine MBw.of (by decide +kernel) (Nat.le_of_ble_eq_true rfl) ?_
  intro p e s m args below meth c ls cb hr hnl hP hD hl
  obtain ⟨⟨hx, hb, hml, hown, htg⟩, hK, hZ, hV, hN, hG⟩ := id cb
  have hS : va_S (AN N) s.heap s.heap [] := va_S.rf
  have hl : lv_has ls 7 [(0, .int (nI x)), (1, .int (nI (n + sb_dg x))), (2, .ref v)] := hl
  obtain ⟨d1, d2, d3, d4, d5, d6, d7, d8, d9, d10, d11, d12, d13, d14⟩ := neg_dec ⟨x, hx9⟩
  dsimp only at d1 d2 d3 d4 d5 d6 d7 d8 d9 d10 d11 d12 d13 d14
  obtain ⟨o1, o2, z1, t1, z2, t2⟩ := id hG
  refine lv_iload_n hx hb dJ6_getChars_ba4f3_0 rfl (lv_at hl 1 rfl) ?_
  refine lv_istore (lv' := [(5, .int (nI (n + sb_dg x))), (0, .int (nI x)), (1, .int (nI (n + sb_dg x))), (2, .ref v)]) hx hb dJ6_getChars_ba4f3_1 hl (by decide) rfl (fun ls hl => ?_)
  refine lv_iload_n hx hb dJ6_getChars_ba4f3_3 rfl (lv_at hl 1 rfl) ?_
  refine lv_if_ge (tgt := 11) hx hb dJ6_getChars_ba4f3_4 (by decide) (fun c1 => ?_) (fun c1 => False.elim (absurd d4 c1))
  refine lv_iconst (v := 0) hx hb dJ6_getChars_ba4f3_11 (by decide) ?_
  refine lv_istore (lv' := [(6, .int 0), (5, .int (nI (n + sb_dg x))), (0, .int (nI x)), (1, .int (nI (n + sb_dg x))), (2, .ref v)]) hx hb dJ6_getChars_ba4f3_12 hl (by decide) rfl (fun ls hl => ?_)
  refine lv_iload hx hb dJ6_getChars_ba4f3_14 (lv_at hl 0 rfl) ?_
  refine lv_if_ne (tgt := 22) hx hb dJ6_getChars_ba4f3_16 (by decide) (fun c1 => False.elim (c1 rfl)) (fun c1 => ?_)
  refine lv_iload_n hx hb dJ6_getChars_ba4f3_19 rfl (lv_at hl 2 rfl) ?_
  refine lv_ineg hx hb dJ6_getChars_ba4f3_20 ?_
  refine lv_istore_n (lv' := [(0, .int (-(nI x))), (6, .int 0), (5, .int (nI (n + sb_dg x))), (1, .int (nI (n + sb_dg x))), (2, .ref v)]) hx hb dJ6_getChars_ba4f3_21 rfl hl (by decide) rfl (fun ls hl => ?_)
  refine lv_iload_n hx hb dJ6_getChars_ba4f3_22 rfl (lv_at hl 0 rfl) ?_
  refine lv_bipush (v := (-100)) hx hb dJ6_getChars_ba4f3_23 (by decide) ?_
  refine lv_icmp_gt (tgt := 72) hx hb dJ6_getChars_ba4f3_25 (by decide) (fun c1 => ?_) (fun c1 => False.elim (absurd d6 c1))
  refine lv_aload_n hx hb dJ6_getChars_ba4f3_72 rfl (lv_at hl 4 rfl) ?_
  have hdg : 1 ≤ sb_dg x ∧ sb_dg x ≤ 2 := by rw [d8]; split <;> omega
  refine lv_iinc (v := (nI (n + sb_dg x - 1))) (lv' := [(5, .int (nI (n + sb_dg x - 1))), (0, .int (-(nI x))), (6, .int 0), (1, .int (nI (n + sb_dg x))), (2, .ref v)]) hx hb dJ6_getChars_ba4f3_73 hl (k := 2) rfl (by show nI (n + sb_dg x) + -1 = _; exact dec1 (by omega)) (by decide) rfl (fun ls hl => ?_)
  refine lv_iload hx hb dJ6_getChars_ba4f3_76 (lv_at hl 0 rfl) ?_
  refine va_gets hx hb z1 hS hown (htg _ fd_83) (fun _ h => h) dJ6_getChars_ba4f3_78 ?_
  refine lv_iload_n hx hb dJ6_getChars_ba4f3_81 rfl (lv_at hl 1 rfl) ?_
  refine lv_ineg hx hb dJ6_getChars_ba4f3_82 ?_
  rw [d5]
  refine va_tb hx hb t1 hS (nI_in hx9 (by decide)) rfl dJ6_getChars_ba4f3_83 ?_
  rw [nI_clamp (show x < 2 ^ 31 by omega)]
  refine va_bast (D := Γ.1) hx hb hK hP hD hS 1 2 rfl rfl (nI_in (show n + sb_dg x - 1 < cm by omega) (by omega)) dJ6_getChars_ba4f3_84 (fun H locs hP hD hS => ?_)
  rw [nI_clamp (show n + sb_dg x - 1 < 2 ^ 31 by omega), d11, ← d9] at hP hD
  have hP : va_P Γ.1 vwCl (wB Γ.2.1 b v cm ml nn (upd a (n + sb_dg x - 1) (sb_b (48 + x % 10)))) H := hP
  have hD : va_D (AN N) (wB Γ.2.1 b v cm ml nn (upd a (n + sb_dg x - 1) (sb_b (48 + x % 10)))) := hD
  refine lv_iload_n hx hb dJ6_getChars_ba4f3_85 rfl (lv_at hl 1 rfl) ?_
  refine lv_bipush (v := (-9)) hx hb dJ6_getChars_ba4f3_86 (by decide) ?_
  refine lv_icmp_ge (tgt := 104) hx hb dJ6_getChars_ba4f3_88 (by decide) (fun c1 => ?_) (fun c1 => ?_)
  · have h10 : x < 10 := d7.mp c1
    have hd1 : sb_dg x = 1 := by rw [d8, if_pos h10]
    refine lv_iload hx hb dJ6_getChars_ba4f3_104 (lv_at hl 2 rfl) ?_
    refine lv_if_eq (tgt := 118) hx hb dJ6_getChars_ba4f3_106 (by decide) (fun c1 => ?_) (fun c1 => False.elim (c1 rfl))
    refine lv_iload hx hb dJ6_getChars_ba4f3_118 (lv_at hl 0 rfl) ?_
    have hs9 : ∀ i, i < sb_dg x → sb_dec x i < 256 ∧ (upd a (n + sb_dg x - 1) (sb_b (48 + x % 10))) (n + i) = sb_b (sb_dec x i) := by
      intro i hi
      have hi0 : i = sb_dg x - 1 := by omega
      subst hi0
      rw [d13, show n + (sb_dg x - 1) = n + sb_dg x - 1 by omega, upd_at]
      exact ⟨by omega, rfl⟩
    exact W.iret (v := (nI (n + sb_dg x - 1))) hx hb hr (fun t ht hW => ⟨⟨_, (), rfl, trivial, _, 0, ⟨_, rfl, sb_fitU hf (sb_fitB _), fun j hj => upd_ne _ _ (by omega), hs9⟩, by rw [ht]; exact hP, hD⟩, hS.F ht⟩) hS.2.2 dJ6_getChars_ba4f3_120 hnl
  · have h10 : 10 ≤ x := Nat.not_lt.mp (fun z => c1 (d7.mpr z))
    have hd1 : sb_dg x = 2 := by rw [d8, if_neg (by omega)]
    refine lv_aload_n hx hb dJ6_getChars_ba4f3_91 rfl (lv_at hl 4 rfl) ?_
    refine lv_iinc (v := (nI (n + sb_dg x - 1 - 1))) (lv' := [(5, .int (nI (n + sb_dg x - 1 - 1))), (0, .int (-(nI x))), (6, .int 0), (1, .int (nI (n + sb_dg x))), (2, .ref v)]) hx hb dJ6_getChars_ba4f3_92 hl (k := 0) rfl (by show nI (n + sb_dg x - 1) + -1 = _; exact dec1 (by omega)) (by decide) rfl (fun ls hl => ?_)
    refine lv_iload hx hb dJ6_getChars_ba4f3_95 (lv_at hl 0 rfl) ?_
    refine va_gets hx hb z2 hS hown (htg _ fd_87) (fun _ h => h) dJ6_getChars_ba4f3_97 ?_
    refine lv_iload_n hx hb dJ6_getChars_ba4f3_100 rfl (lv_at hl 1 rfl) ?_
    refine lv_ineg hx hb dJ6_getChars_ba4f3_101 ?_
    rw [d5]
    refine va_tb hx hb t2 hS (nI_in hx9 (by decide)) rfl dJ6_getChars_ba4f3_102 ?_
    rw [nI_clamp (show x < 2 ^ 31 by omega)]
    refine va_bast (D := Γ.1) hx hb hK hP hD hS 1 2 rfl rfl (nI_in (show n + sb_dg x - 1 - 1 < cm by omega) (by omega)) dJ6_getChars_ba4f3_103 (fun H locs hP hD hS => ?_)
    rw [nI_clamp (show n + sb_dg x - 1 - 1 < 2 ^ 31 by omega), d12, ← d10] at hP hD
    have hP : va_P Γ.1 vwCl (wB Γ.2.1 b v cm ml nn (upd (upd a (n + sb_dg x - 1) (sb_b (48 + x % 10))) (n + sb_dg x - 1 - 1) (sb_b (48 + x / 10)))) H := hP
    have hD : va_D (AN N) (wB Γ.2.1 b v cm ml nn (upd (upd a (n + sb_dg x - 1) (sb_b (48 + x % 10))) (n + sb_dg x - 1 - 1) (sb_b (48 + x / 10)))) := hD
    refine lv_iload hx hb dJ6_getChars_ba4f3_104 (lv_at hl 2 rfl) ?_
    refine lv_if_eq (tgt := 118) hx hb dJ6_getChars_ba4f3_106 (by decide) (fun c1 => ?_) (fun c1 => False.elim (c1 rfl))
    refine lv_iload hx hb dJ6_getChars_ba4f3_118 (lv_at hl 0 rfl) ?_
    have hs9 : ∀ i, i < sb_dg x → sb_dec x i < 256 ∧ (upd (upd a (n + sb_dg x - 1) (sb_b (48 + x % 10))) (n + sb_dg x - 1 - 1) (sb_b (48 + x / 10))) (n + i) = sb_b (sb_dec x i) := by
      intro i hi
      rcases (show i = 0 ∨ i = sb_dg x - 1 by omega) with rfl | rfl
      · rw [d14 h10, show n + sb_dg x - 1 - 1 = n + 0 by omega, upd_at]
        exact ⟨by omega, rfl⟩
      · rw [d13, upd_ne _ _ (by omega), show n + (sb_dg x - 1) = n + sb_dg x - 1 by omega, upd_at]
        exact ⟨by omega, rfl⟩
    exact W.iret (v := (nI (n + sb_dg x - 1 - 1))) hx hb hr (fun t ht hW => ⟨⟨_, (), rfl, trivial, _, 0, ⟨_, rfl, sb_fitU (sb_fitU hf (sb_fitB _)) (sb_fitB _), fun j hj => by rw [upd_ne _ _ (by omega), upd_ne _ _ (by omega)], hs9⟩, by rw [ht]; exact hP, hD⟩, hS.F ht⟩) hS.2.2 dJ6_getChars_ba4f3_120 hnl
theorem jm_245 : MWs RJ5 245 yJ6_stringSize_0f7a4 cJ6_stringSize_0f7a4 4 (some .int) 1 := ⟨gw_t (tin5 (List.mem_of_getElem? (i := 7) rfl)) rfl, gw_t (tin5 (List.mem_of_getElem? (i := 8) rfl)) rfl, gw_t (tin1 (List.mem_of_getElem? (i := 20) rfl)) rfl, gw_t (tin5 (List.mem_of_getElem? (i := 9) rfl)) rfl, by decide, by decide, by decide +kernel⟩
theorem jm_248 : MWs RJ5 248 yJ6_getChars_ba4f3 cJ6_getChars_ba4f3 7 (some .int) 3 := ⟨gw_t (tin5 (List.mem_of_getElem? (i := 10) rfl)) rfl, gw_t (tin5 (List.mem_of_getElem? (i := 11) rfl)) rfl, gw_t (tin1 (List.mem_of_getElem? (i := 20) rfl)) rfl, gw_t (tin5 (List.mem_of_getElem? (i := 12) rfl)) rfl, by decide, by decide, by decide +kernel⟩
set_option maxHeartbeats 4000000 in
set_option maxRecDepth 100000 in
theorem q_appendI (l : Launch) (Γ : Wc) (N b v cm : Nat) (ml : Int32) (n : Nat) (a : Nat → Int32) (t : Nat → Nat) (x : Nat) (hx9 : x < 100) (hm : n ≤ cm ∧ cm ≤ 130 ∧ n + sb_dg x ≤ 64) (hf : sb_Fit a) (hL : sb_Lat t n a) : MBr l Γ N yJ5_append_c97b9 cJ5_append_c97b9 4 (some (.object RJ5)) 4 122 1 200 [.ref b, .int (nI x)] (wB Γ.2.1 b v cm ml (nI n) a) (fun ra w1 => ra = b ∧ TB Γ.2.1 b (sb_cat t n (sb_dec x)) (n + sb_dg x) w1) := by
  refine MBr.of (by decide +kernel) (Nat.le_of_ble_eq_true rfl) ?_
  intro p e s m args below meth c ls cb hr hnl hP hD hl
  obtain ⟨⟨hx, hb, hml, hown, htg⟩, hK, hZ, hV, hN, hG⟩ := id cb
  have hS : va_S (AN N) s.heap s.heap [] := va_S.rf
  have hl : lv_has ls 4 [(0, .ref b), (1, .int (nI x))] := hl
  refine lv_aload_n hx hb dJ5_append_c97b9_0 rfl (lv_at hl 0 rfl) ?_
  refine va_get (D := Γ.1) (ref := RJ5) (ci := 12) (v := .int (nI n)) (C := RJ4) (T := TJ4) (N := 4) hx hb htg inJ4 hown hK hP 0 rfl rfl 3 (by decide) (htg _ fb_79) (fun _ h9 => h9) rfl dJ5_append_c97b9_1 ?_
  refine lv_istore_n (lv' := [(2, .int (nI n)), (0, .ref b), (1, .int (nI x))]) hx hb dJ5_append_c97b9_4 rfl hl (by decide) rfl (fun ls hl => ?_)
  refine lv_iload_n hx hb dJ5_append_c97b9_5 rfl (lv_at hl 0 rfl) ?_
  refine lv_iload_n hx hb dJ5_append_c97b9_6 rfl (lv_at hl 2 rfl) ?_
  refine va_calli (va_runS (As := [.int (nI x)]) (rest := [.int (nI n)]) ⟨hx, hb, hml, hown, htg⟩ (q_stringSize l Γ N (wB Γ.2.1 b v cm ml (nI n) a) x hx9) (jm_245.call0 htg ⟨Nat.le_of_ble_eq_true rfl, Nat.le_of_ble_eq_true rfl⟩) ⟨PB.blind, fun U hU hW => ⟨rfl, pbU cb hP hD hS hU hW⟩⟩ rfl rfl hl.1 rfl (lv_room (Nat.le_of_ble_eq_true rfl)) dJ5_append_c97b9_7 ⟨Nat.le_of_ble_eq_true rfl, Nat.le_of_ble_eq_true rfl⟩) hS (fun q _ h => h) (fun q h => h) (fun r u t H locs ht hvm hw hB hz1 hk1 hS => ?_)
  subst hw
  have hP : va_P Γ.1 vwCl (wB Γ.2.1 b v cm ml (nI n) a) H := by rw [← ht]; exact hB
  refine lv_iadd hx hb dJ5_append_c97b9_10 ?_
  rw [nI_add]
  refine lv_istore_n (lv' := [(3, .int (nI (n + sb_dg x))), (2, .int (nI n)), (0, .ref b), (1, .int (nI x))]) hx hb dJ5_append_c97b9_11 rfl hl (by decide) rfl (fun ls hl => ?_)
  refine lv_aload_n hx hb dJ5_append_c97b9_12 rfl (lv_at hl 2 rfl) ?_
  refine lv_iload_n hx hb dJ5_append_c97b9_13 rfl (lv_at hl 0 rfl) ?_
  refine va_callv (va_runP (As := [.int (nI (n + sb_dg x))]) (rest := []) ⟨hx, hb, hml, hown, htg⟩ hV (q_ensure l Γ N b v cm ml (nI n) a (n + sb_dg x) (by omega) hf) jm_100 ⟨Nat.le_of_ble_eq_true rfl, Nat.le_of_ble_eq_true rfl⟩ ⟨PB.blind, sb_recv hK hP, fun U hU hW => ⟨rfl, pbU cb hP hD hS hU hW⟩⟩ rfl rfl hl.1 rfl (lv_room (Nat.le_of_ble_eq_true rfl)) dJ5_append_c97b9_14 ⟨Nat.le_of_ble_eq_true rfl, Nat.le_of_ble_eq_true rfl⟩) hS (fun q _ h => h) (fun q h => h) (fun u t H locs ht hvm hw hB hz1 hk1 hS => ?_)
  obtain ⟨w1, ⟨v, m', a', rfl, hq1, hq2, hq3, hf', ha'⟩, hP, hD⟩ := hB
  rw [ht] at hP
  have hL' := sb_latKeep (a' := a') hL (fun j hj => ha' j (by omega))
  clear hf ha' hL
  have hnm : n ≤ m' := by omega
  clear hq2
  refine lv_aload_n hx hb dJ5_append_c97b9_17 rfl (lv_at hl 2 rfl) ?_
  refine va_calli (va_runU (C := RJ4) (owner := RJ5) (As := []) (rest := []) ⟨hx, hb, hml, hown, htg⟩ (q_isLatin1 l Γ N b v m' ml (nI n) a') (jm_83 htg ⟨Nat.le_of_ble_eq_true rfl, Nat.le_of_ble_eq_true rfl⟩) ⟨PB.blind, sb_recv hK hP, fun U hU hW => ⟨rfl, pbU cb hP hD hS hU hW⟩⟩ rfl rfl hl.1 rfl (lv_room (Nat.le_of_ble_eq_true rfl)) dJ5_append_c97b9_18 ⟨Nat.le_of_ble_eq_true rfl, Nat.le_of_ble_eq_true rfl⟩) hS (fun q _ h => h) (fun q h => h) (fun r u t H locs ht hvm hw hB hz1 hk1 hS => ?_)
  subst hw
  have hP : va_P Γ.1 vwCl (wB Γ.2.1 b v m' ml (nI n) a') H := by rw [← ht]; exact hB
  refine lv_if_eq (tgt := 37) hx hb dJ5_append_c97b9_21 (by decide) (fun c1 => False.elim (absurd c1 (by decide))) (fun c1 => ?_)
  refine lv_iload_n hx hb dJ5_append_c97b9_24 rfl (lv_at hl 3 rfl) ?_
  refine lv_iload_n hx hb dJ5_append_c97b9_25 rfl (lv_at hl 0 rfl) ?_
  refine lv_aload_n hx hb dJ5_append_c97b9_26 rfl (lv_at hl 2 rfl) ?_
  refine va_get (D := Γ.1) (ref := RJ5) (ci := 12) (v := .ref v) (C := RJ4) (T := TJ4) (N := 4) hx hb htg inJ4 hown hK hP 0 rfl rfl 0 (by decide) (htg _ fb_15) (fun _ h9 => h9) rfl dJ5_append_c97b9_27 ?_
  refine va_calli (va_runS (As := [.int (nI x), .int (nI (n + sb_dg x)), .ref v]) (rest := []) ⟨hx, hb, hml, hown, htg⟩ (q_getChars l Γ N b v m' ml (nI n) a' n x hx9 ⟨hq1, hq3⟩ hf') (jm_248.call0 htg ⟨Nat.le_of_ble_eq_true rfl, Nat.le_of_ble_eq_true rfl⟩) ⟨PB.blind, fun U hU hW => ⟨rfl, pbU cb hP hD hS hU hW⟩⟩ rfl rfl hl.1 rfl (lv_room (Nat.le_of_ble_eq_true rfl)) dJ5_append_c97b9_30 ⟨Nat.le_of_ble_eq_true rfl, Nat.le_of_ble_eq_true rfl⟩) hS (fun q _ h => h) (fun q h => h) (fun r u t H locs ht hvm hw hB hz1 hk1 hS => ?_)
  obtain ⟨w1, r9, ⟨a9, rfl, hf9, hk9, hs9⟩, hP, hD⟩ := hB
  rw [ht] at hP
  refine lv_pop hx hb dJ5_append_c97b9_33 rfl ?_
  refine lv_goto (tgt := 48) hx hb dJ5_append_c97b9_34 (by decide) ?_
  refine lv_aload_n hx hb dJ5_append_c97b9_48 rfl (lv_at hl 2 rfl) ?_
  refine lv_iload_n hx hb dJ5_append_c97b9_49 rfl (lv_at hl 0 rfl) ?_
  refine va_put (D := Γ.1) (ref := RJ5) (ci := 12) (v := .int (nI (n + sb_dg x))) (ty := .int) (C := RJ4) (T := TJ4) (N := 4) hx hb htg inJ4 tyJ4 tyJ4_ok nmJ4 hown hK hP hD hS 0 rfl rfl 3 (by decide) (htg _ fb_79) (fun _ h9 => h9) rfl (by decide +kernel) rfl rfl (Nat.le_of_ble_eq_true rfl) dJ5_append_c97b9_50 (fun H locs hP hD hS => ?_)
  have hP : va_P Γ.1 vwCl (wB Γ.2.1 b v m' ml (nI (n + sb_dg x)) a9) H := hP
  have hD : va_D (AN N) (wB Γ.2.1 b v m' ml (nI (n + sb_dg x)) a9) := hD
  refine lv_aload_n hx hb dJ5_append_c97b9_53 rfl (lv_at hl 2 rfl) ?_
  refine W.widen (k := 1) (n := 200) (Nat.le_of_ble_eq_true rfl) (Nat.le_of_ble_eq_true rfl) ?_
  exact W.aret (v := .ref b) hx hb hr (Or.inl ⟨_, rfl⟩) (Or.inr ⟨b, rfl⟩) (fun t ht hW => ⟨⟨(), b, rfl, trivial, _, ⟨rfl, v, m', ml, a9, rfl, hq1, hq3, hf9, sb_latPut hL' hk9 hs9⟩, by rw [ht]; exact hP, hD⟩, hS.F ht⟩) hS.2.2 dJ5_append_c97b9_54 hnl
theorem jm_53 : MWu RJ4 53 yJ5_append_c97b9 cJ5_append_c97b9 4 (some (.object RJ5)) 1 := ⟨gw_t (tin5 (List.mem_of_getElem? (i := 4) rfl)) rfl, gw_t (tin4 (List.mem_of_getElem? (i := 128) rfl)) rfl, gw_t (tin5 (List.mem_of_getElem? (i := 5) rfl)) rfl, gw_t (tin1 (List.mem_of_getElem? (i := 27) rfl)) rfl, gw_t (tin5 (List.mem_of_getElem? (i := 6) rfl)) rfl, rfl, by decide, by decide +kernel⟩
set_option maxHeartbeats 4000000 in
set_option maxRecDepth 100000 in
theorem q4_appendI (l : Launch) (Γ : Wc) (N b v cm : Nat) (ml : Int32) (n : Nat) (a : Nat → Int32) (t : Nat → Nat) (x : Nat) (hx9 : x < 100) (hm : n ≤ cm ∧ cm ≤ 130 ∧ n + sb_dg x ≤ 64) (hf : sb_Fit a) (hL : sb_Lat t n a) : MBr l Γ N yJ4_append_bf812 cJ4_append_bf812 2 (some (.object RJ4)) 5 155 1 200 [.ref b, .int (nI x)] (wB Γ.2.1 b v cm ml (nI n) a) (fun ra w1 => ra = b ∧ TB Γ.2.1 b (sb_cat t n (sb_dec x)) (n + sb_dg x) w1) := by
  refine MBr.of (by decide +kernel) (Nat.le_of_ble_eq_true rfl) ?_
  intro p e s m args below meth c ls cb hr hnl hP hD hl
  obtain ⟨⟨hx, hb, hml, hown, htg⟩, hK, hZ, hV, hN, hG⟩ := id cb
  have hS : va_S (AN N) s.heap s.heap [] := va_S.rf
  have hl : lv_has ls 2 [(0, .ref b), (1, .int (nI x))] := hl
  refine lv_aload_n hx hb dJ4_append_bf812_0 rfl (lv_at hl 0 rfl) ?_
  refine lv_iload_n hx hb dJ4_append_bf812_1 rfl (lv_at hl 1 rfl) ?_
  refine va_callr (va_runZ (As := [.int (nI x)]) (rest := []) (sbAt hK) ⟨hx, hb, hml, hown, htg⟩ (q_appendI l Γ N b v cm ml n a t x hx9 hm hf hL) jm_53 ⟨Nat.le_of_ble_eq_true rfl, Nat.le_of_ble_eq_true rfl⟩ ⟨PB.blind, sb_recv hK hP, fun U hU hW => ⟨rfl, pbU cb hP hD hS hU hW⟩⟩ rfl rfl hl.1 rfl (lv_room (Nat.le_of_ble_eq_true rfl)) dJ4_append_bf812_2 ⟨Nat.le_of_ble_eq_true rfl, Nat.le_of_ble_eq_true rfl⟩) hS (fun q _ h => h) (fun q h => h) (fun u ra t1 H locs ht hvm hw hB hz1 hk1 hS => ?_)
  obtain ⟨w1, ⟨rfl, hT⟩, hP, hD⟩ := hB
  rw [ht] at hP
  refine lv_pop hx hb dJ4_append_bf812_5 rfl ?_
  refine lv_aload_n hx hb dJ4_append_bf812_6 rfl (lv_at hl 0 rfl) ?_
  exact W.aret (v := .ref ra) hx hb hr (Or.inl ⟨_, rfl⟩) (Or.inr ⟨ra, rfl⟩) (fun t ht hW => ⟨⟨(), ra, rfl, trivial, w1, ⟨rfl, hT⟩, by rw [ht]; exact hP, hD⟩, hS.F ht⟩) hS.2.2 dJ4_append_bf812_7 hnl
