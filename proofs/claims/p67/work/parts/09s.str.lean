/-! the JDK methods that are reached: String.length, charAt; Integer.bitCount -/
theorem js_cs : Cond.fieldLink RJ0 38 "java/lang/String" "COMPACT_STRINGS" "Z" ∈ gw := gw_t (tin2 (List.mem_of_getElem? (i := 139) rfl)) rfl
theorem js_coder : Cond.fieldLink RJ0 15 "java/lang/String" "coder" "B" ∈ gw := gw_t (tin7 (List.mem_of_getElem? (i := 123) rfl)) rfl
theorem js_value : Cond.fieldLink RJ0 9 "java/lang/String" "value" "[B" ∈ gw := gw_t (tin7 (List.mem_of_getElem? (i := 122) rfl)) rfl
theorem js_fmt : Cond.fieldLink RJ0 1053 "jdk/internal/util/Preconditions" "SIOOBE_FORMATTER" "Ljava/util/function/BiFunction;" ∈ gw := gw_t (tin2 (List.mem_of_getElem? (i := 158) rfl)) rfl
theorem js_mcoder : MWv RJ0 335 yJ0_coder_7d493 cJ0_coder_7d493 1 (some .byte) 0 := ⟨gw_t (tin2 (List.mem_of_getElem? (i := 135) rfl)) rfl, gw_t (tin2 (List.mem_of_getElem? (i := 136) rfl)) rfl, gw_t (tin2 (List.mem_of_getElem? (i := 137) rfl)) rfl, gw_t (tin1 (List.mem_of_getElem? (i := 13) rfl)) rfl, gw_t (tin2 (List.mem_of_getElem? (i := 138) rfl)) rfl, by decide, by decide, by decide +kernel⟩
theorem js_mlatin : MWv RJ0 492 yJ0_isLatin1_aae02 cJ0_isLatin1_aae02 1 (some .boolean) 0 := ⟨gw_t (tin2 (List.mem_of_getElem? (i := 148) rfl)) rfl, gw_t (tin2 (List.mem_of_getElem? (i := 149) rfl)) rfl, gw_t (tin2 (List.mem_of_getElem? (i := 150) rfl)) rfl, gw_t (tin1 (List.mem_of_getElem? (i := 13) rfl)) rfl, gw_t (tin2 (List.mem_of_getElem? (i := 151) rfl)) rfl, by decide, by decide, by decide +kernel⟩
theorem js_mchar : MWs RJ0 495 yJ1_charAt_3b067 cJ1_charAt_3b067 2 (some .char) 2 := ⟨gw_t (tin2 (List.mem_of_getElem? (i := 152) rfl)) rfl, gw_t (tin2 (List.mem_of_getElem? (i := 153) rfl)) rfl, gw_t (tin1 (List.mem_of_getElem? (i := 15) rfl)) rfl, gw_t (tin2 (List.mem_of_getElem? (i := 154) rfl)) rfl, by decide, by decide, by decide +kernel⟩
theorem js_mchk : MWs RJ1 9 yJ0_checkIndex_df160 cJ0_checkIndex_df160 2 none 2 := ⟨gw_t (tin2 (List.mem_of_getElem? (i := 155) rfl)) rfl, gw_t (tin2 (List.mem_of_getElem? (i := 156) rfl)) rfl, gw_t (tin1 (List.mem_of_getElem? (i := 13) rfl)) rfl, gw_t (tin2 (List.mem_of_getElem? (i := 157) rfl)) rfl, by decide, by decide, by decide +kernel⟩
theorem js_mpre : MWs RJ0 1059 yJ3_checkIndex_8e157 cJ3_checkIndex_8e157 3 (some .int) 3 := ⟨gw_t (tin2 (List.mem_of_getElem? (i := 160) rfl)) rfl, gw_t (tin2 (List.mem_of_getElem? (i := 161) rfl)) rfl, gw_t (tin1 (List.mem_of_getElem? (i := 16) rfl)) rfl, gw_t (tin2 (List.mem_of_getElem? (i := 162) rfl)) rfl, by decide, by decide, by decide +kernel⟩
theorem jb_265 : Cond.constant RJ6 265 1431655765 ∈ gw := gw_t (tin6 (List.mem_of_getElem? (i := 138) rfl)) rfl
theorem jb_266 : Cond.constant RJ6 266 858993459 ∈ gw := gw_t (tin6 (List.mem_of_getElem? (i := 139) rfl)) rfl
theorem jb_267 : Cond.constant RJ6 267 252645135 ∈ gw := gw_t (tin6 (List.mem_of_getElem? (i := 140) rfl)) rfl
section FR4
variable {p : Program} {l : Launch} {e : Env} {R : Room} {s : State} {m : MethodId} {args : Array Value} {below : List Frame} {meth : Method} {c : Code} {H : Heap} {locs : List Loc} {cells slots : Nat} {Q : State → Prop}
variable {cc : ByteArray} {pc nL : Nat} {ls : Array Slot} {rest st : List Value} {Y : Sys} {Γ : Wc} {ad : Nat → Nat → Nat} {A : Nat → Prop} {σ σ' : Sig} {own : String} {ρ : Type} {res : ρ}
theorem r_callSt (cx : CX Y Γ ad A own cc nL p s m args c) (hP : PS Y Γ ad A s σ H locs) {fr lo maxL index k : Nat} {y : MethodName} {bytes : ByteArray} {ret : Option FieldType} {r : Int32} {As : List Value} (hk : k < strN) (hM : MI l Y Γ ad A y bytes maxL ret fr lo (.ref (Γ.2.2.1 k) :: As) σ r σ') (hy : y.cls = "java/lang/String") (hw : MWv own index y bytes maxL ret As.length) (hR : fr + 1 ≤ R.frames ∧ 8 + (maxL + 11) + lo ≤ R.locals) (hst : st = As.reverse ++ .ref (Γ.2.2.1 k) :: rest) (hrs : (rest.map fun v => v.category).sum ≤ 8) (hsz : ls.size = nL) (hcs : cells ≤ R.cells ∧ slots ≤ R.slots) (d : decode cc pc = .ok (.invokevirtual index, 3))
    (kk : ∀ (H1 : Heap) (locs1 : List Loc), PS Y Γ ad A s σ' H1 locs1 → W p l e R s m args below meth c H1 locs1 cells slots Q (F0 m (pc + 3) ls (.int r :: rest))) : W p l e R s m args below meth c H locs cells slots Q (F0 m pc ls st) := by
  have hrc : ∃ cell : Cell, H[Γ.2.2.1 k]? = some cell ∧ cell.vm.isStatics = false ∧ s.vm.findClass y.cls = some cell.cls := by
    obtain ⟨cell, h1, h2, h3, -⟩ := (cx.hZ.2.2.2.2 k hk).1.kept hP.2.2.1
    exact ⟨cell, h1, h2, by rw [hy]; exact h3⟩
  refine va_calli (va_runV (As := As) (rest := rest) (fixOf cx) hM (hw.callB cx hR) ⟨Pre.blind, hrc, fun U hU hW => ⟨rfl, cx.pre hP hU hW⟩⟩ rfl rfl hsz hst (lv_room hrs) d hcs) hP.2 (fun q _ h => h) (fun q h => h) (fun r' u t H1 locs1 ht hvm hw hB hz1 hk1 hS => ?_)
  subst hw
  exact kk H1 locs1 ⟨by rw [← ht]; exact hB, hS⟩
end FR4
set_option maxHeartbeats 4000000 in
set_option maxRecDepth 100000 in
theorem wJ_coder (l : Launch) (Y : Sys) (Γ : Wc) (ad : Nat → Nat → Nat) (A : Nat → Prop) (k : Nat) (hk : k < strN) (σ : Sig) : MI l Y Γ ad A yJ0_coder_7d493 cJ0_coder_7d493 1 (some .byte) 0 0 [.ref (Γ.2.2.1 k)] σ 0 σ := by
  refine MI.of (by decide) (Nat.le_of_ble_eq_true rfl) ?_
  intro p e s m args below meth c ls cx hr hk' hP hl
  have hl : lv_has ls 1 [(0, .ref (Γ.2.2.1 k))] := hl
  refine va_gets cx.1 cx.2.1 cx.hZ.2.2.1 hP.2 cx.hown (cx.hts _ js_cs) (fun _ h => h) dJ0_coder_7d493_0 ?_
  refine lv_if_eq (tgt := 13) cx.1 cx.2.1 dJ0_coder_7d493_3 (by decide) (fun h => absurd h (by decide)) (fun _ => ?_)
  refine r_aload_n cx dJ0_coder_7d493_6 (lv_at hl 0 rfl) ?_
  refine vk_getf cx.1 cx.2.1 (cx.hZ.2.2.2.2 k hk).2.1 hP.2 cx.hown (cx.hts _ js_coder) (fun _ h => h) dJ0_coder_7d493_7 ?_
  refine r_goto cx 14 dJ0_coder_7d493_10 (by decide) ?_
  exact r_zret cx hP hr hk' (by decide) dJ0_coder_7d493_14 rfl
set_option maxHeartbeats 4000000 in
set_option maxRecDepth 100000 in
theorem wJ_latin (l : Launch) (Y : Sys) (Γ : Wc) (ad : Nat → Nat → Nat) (A : Nat → Prop) (k : Nat) (hk : k < strN) (σ : Sig) : MI l Y Γ ad A yJ0_isLatin1_aae02 cJ0_isLatin1_aae02 1 (some .boolean) 0 0 [.ref (Γ.2.2.1 k)] σ 1 σ := by
  refine MI.of (by decide) (Nat.le_of_ble_eq_true rfl) ?_
  intro p e s m args below meth c ls cx hr hk' hP hl
  have hl : lv_has ls 1 [(0, .ref (Γ.2.2.1 k))] := hl
  refine va_gets cx.1 cx.2.1 cx.hZ.2.2.1 hP.2 cx.hown (cx.hts _ js_cs) (fun _ h => h) dJ0_isLatin1_aae02_0 ?_
  refine lv_if_eq (tgt := 17) cx.1 cx.2.1 dJ0_isLatin1_aae02_3 (by decide) (fun h => absurd h (by decide)) (fun _ => ?_)
  refine r_aload_n cx dJ0_isLatin1_aae02_6 (lv_at hl 0 rfl) ?_
  refine vk_getf cx.1 cx.2.1 (cx.hZ.2.2.2.2 k hk).2.1 hP.2 cx.hown (cx.hts _ js_coder) (fun _ h => h) dJ0_isLatin1_aae02_7 ?_
  refine lv_if_ne (tgt := 17) cx.1 cx.2.1 dJ0_isLatin1_aae02_10 (by decide) (fun h => absurd rfl h) (fun _ => ?_)
  refine r_iconst cx 1 dJ0_isLatin1_aae02_13 (by decide) ?_
  refine r_goto cx 18 dJ0_isLatin1_aae02_14 (by decide) ?_
  exact r_zret cx hP hr hk' (by decide) dJ0_isLatin1_aae02_18 rfl
set_option maxHeartbeats 4000000 in
set_option maxRecDepth 100000 in
theorem wJ_length (l : Launch) (Y : Sys) (Γ : Wc) (ad : Nat → Nat → Nat) (A : Nat → Prop) (k : Nat) (hk : k < strN) (σ : Sig) : MI l Y Γ ad A yJ0_length_8abf5 cJ0_length_8abf5 1 (some .int) 1 20 [.ref (Γ.2.2.1 k)] σ (Int32.ofNat (strB k).length) σ := by
  refine MI.of (by decide) (Nat.le_of_ble_eq_true rfl) ?_
  intro p e s m args below meth c ls cx hr hk' hP hl
  have hl : lv_has ls 1 [(0, .ref (Γ.2.2.1 k))] := hl
  refine r_aload_n cx dJ0_length_8abf5_0 (lv_at hl 0 rfl) ?_
  refine vk_getf cx.1 cx.2.1 (cx.hZ.2.2.2.2 k hk).2.2.1 hP.2 cx.hown (cx.hts _ js_value) (fun _ h => h) dJ0_length_8abf5_1 ?_
  obtain ⟨scr, h1, h2, h3, h4, h5, h6, h7⟩ := (cx.hZ.2.2.2.2 k hk).2.2.2
  refine W.alen (n := Int32.ofNat (strB k).length) cx.1 cx.2.1 (by rw [hP.2.2.1 _ (Array.getElem?_eq_some_iff.mp h1).1 h7]; exact h1) h2 h5 rfl rfl dJ0_length_8abf5_4 ?_
  refine r_aload_n cx dJ0_length_8abf5_5 (lv_at hl 0 rfl) ?_
  refine r_callSt cx hP (As := []) hk (wJ_coder l Y Γ ad A k hk σ) rfl js_mcoder ⟨Nat.le_of_ble_eq_true rfl, Nat.le_of_ble_eq_true rfl⟩ rfl (Nat.le_of_ble_eq_true rfl) hl.1 ⟨Nat.zero_le _, Nat.zero_le _⟩ dJ0_length_8abf5_6 (fun H locs hP => ?_)
  refine lv_ishr cx.1 cx.2.1 dJ0_length_8abf5_9 ?_
  refine r_iret cx hP hr hk' dJ0_length_8abf5_10 ?_
  rw [sb_shr0]
set_option maxHeartbeats 4000000 in
set_option maxRecDepth 100000 in
theorem wJ_pre (l : Launch) (Y : Sys) (Γ : Wc) (ad : Nat → Nat → Nat) (A : Nat → Prop) (i n : Int32) (v : Value) (hv : lg_sl [.int i, .int n, v] = [.val (.int i), .val (.int n), .val v]) (h0 : ¬ i < 0) (hn : i < n) (σ : Sig) : MI l Y Γ ad A yJ3_checkIndex_8e157 cJ3_checkIndex_8e157 3 (some .int) 0 0 [.int i, .int n, v] σ i σ := by
  refine MI.of (by decide) (by rw [hv]; exact Nat.le_refl 3) ?_
  intro p e s m args below meth c ls cx hr hk' hP hl
  have hl : lv_has ls 3 [(0, .int i), (1, .int n), (2, v)] := hl
  refine r_iload_n cx dJ3_checkIndex_8e157_0 (lv_at hl 0 rfl) ?_
  refine lv_if_lt (tgt := 9) cx.1 cx.2.1 dJ3_checkIndex_8e157_1 (by decide) (fun h => absurd h h0) (fun _ => ?_)
  refine r_iload_n cx dJ3_checkIndex_8e157_4 (lv_at hl 0 rfl) ?_
  refine r_iload_n cx dJ3_checkIndex_8e157_5 (lv_at hl 1 rfl) ?_
  refine lv_icmp_lt (tgt := 16) cx.1 cx.2.1 dJ3_checkIndex_8e157_6 (by decide) (fun _ => ?_) (fun h => absurd hn h)
  refine r_iload_n cx dJ3_checkIndex_8e157_16 (lv_at hl 0 rfl) ?_
  exact r_iret cx hP hr hk' dJ3_checkIndex_8e157_17 rfl
set_option maxHeartbeats 4000000 in
set_option maxRecDepth 100000 in
theorem wJ_chk (l : Launch) (Y : Sys) (Γ : Wc) (ad : Nat → Nat → Nat) (A : Nat → Prop) (i n : Int32) (h0 : ¬ i < 0) (hn : i < n) (σ : Sig) : MV l Y Γ ad A yJ0_checkIndex_df160 cJ0_checkIndex_df160 2 1 22 [.int i, .int n] σ σ := by
  refine MV.of (by decide) (Nat.le_of_ble_eq_true rfl) ?_
  intro p e s m args below meth c ls cx hr hk' hP hl
  have hl : lv_has ls 2 [(0, .int i), (1, .int n)] := hl
  refine r_iload_n cx dJ0_checkIndex_df160_0 (lv_at hl 0 rfl) ?_
  refine r_iload_n cx dJ0_checkIndex_df160_1 (lv_at hl 1 rfl) ?_
  have hZ : ∃ v : Value, (v = .null ∨ ∃ t, v = .ref t) ∧ va_Z "jdk/internal/util/Preconditions" "SIOOBE_FORMATTER" "Ljava/util/function/BiFunction;" v A s s.heap := by
    rcases cx.hZ.2.2.2.1 with h | ⟨t, h⟩
    · exact ⟨_, Or.inl rfl, h⟩
    · exact ⟨_, Or.inr ⟨t, rfl⟩, h⟩
  obtain ⟨v, hv, hZ⟩ := hZ
  have hv1 : v.category = 1 := by rcases hv with rfl | ⟨t, rfl⟩ <;> rfl
  have hv2 : lg_sl [.int i, .int n, v] = [.val (.int i), .val (.int n), .val v] := by rcases hv with rfl | ⟨t, rfl⟩ <;> rfl
  refine va_gets cx.1 cx.2.1 hZ hP.2 cx.hown (cx.hts _ js_fmt) (fun _ h => h) dJ0_checkIndex_df160_2 ?_
  refine r_callSi cx hP (As := [.int i, .int n, v]) (wJ_pre l Y Γ ad A i n v hv2 h0 hn σ) js_mpre ⟨Nat.le_of_ble_eq_true rfl, Nat.le_of_ble_eq_true rfl⟩ rfl (Nat.le_of_ble_eq_true rfl) hl.1 ⟨Nat.zero_le _, Nat.zero_le _⟩ dJ0_checkIndex_df160_5 (fun H locs hP => ?_)
  refine r_pop cx dJ0_checkIndex_df160_8 rfl ?_
  exact r_vret cx hP hr hk' dJ0_checkIndex_df160_9 rfl
theorem str_small : ∀ k, k < strN → (strB k).length < 2 ^ 31 ∧ ∀ j, j < (strB k).length → narrow .char (.int (((strA k j &&& 255).toUInt32 % 65536).toInt32)) = .int (((strA k j &&& 255).toUInt32 % 65536).toInt32) ∧ ((strA k j &&& 255).toUInt32 % 65536).toInt32 = strA k j := by decide +kernel
set_option maxHeartbeats 4000000 in
set_option maxRecDepth 100000 in
theorem wJ_char1 (l : Launch) (Y : Sys) (Γ : Wc) (ad : Nat → Nat → Nat) (A : Nat → Prop) (k : Nat) (hk : k < strN) (i : Int32) (hi : vp_in i (strB k).length) (σ : Sig) : MI l Y Γ ad A yJ1_charAt_3b067 cJ1_charAt_3b067 2 (some .char) 2 44 [.ref (Γ.2.2.2 k), .int i] σ (strA k i.toNatClampNeg) σ := by
  have hlt : i.toNatClampNeg < (strB k).length := Nat.not_le.mp fun q => hi (Or.inr q)
  obtain ⟨hs1, hs2⟩ := str_small k hk
  obtain ⟨hs3, hs4⟩ := hs2 _ hlt
  obtain ⟨j, hj, ej⟩ := vp_in_of hi hs1
  have h0 : ¬ i < 0 := fun h => hi (Or.inl h)
  have hn : i < Int32.ofNat (strB k).length := by rw [ej]; exact nI_lt hj hs1
  refine MI.of (by decide) (Nat.le_of_ble_eq_true rfl) ?_
  intro p e s m args below meth c ls cx hr hk' hP hl
  have hl : lv_has ls 2 [(0, .ref (Γ.2.2.2 k)), (1, .int i)] := hl
  refine r_iload_n cx dJ1_charAt_3b067_0 (lv_at hl 1 rfl) ?_
  refine r_aload_n cx dJ1_charAt_3b067_1 (lv_at hl 0 rfl) ?_
  obtain ⟨scr, h1, h2, h3, h4, h5, h6, h7⟩ := id (cx.hZ.2.2.2.2 k hk).2.2.2
  refine W.alen (n := Int32.ofNat (strB k).length) cx.1 cx.2.1 (by rw [hP.2.2.1 _ (Array.getElem?_eq_some_iff.mp h1).1 h7]; exact h1) h2 h5 rfl rfl dJ1_charAt_3b067_2 ?_
  refine r_callSv cx hP (As := [.int i, .int (Int32.ofNat (strB k).length)]) (wJ_chk l Y Γ ad A i _ h0 hn σ) js_mchk ⟨Nat.le_of_ble_eq_true rfl, Nat.le_of_ble_eq_true rfl⟩ rfl (Nat.le_of_ble_eq_true rfl) hl.1 ⟨Nat.zero_le _, Nat.zero_le _⟩ dJ1_charAt_3b067_3 (fun H locs hP => ?_)
  refine r_aload_n cx dJ1_charAt_3b067_6 (lv_at hl 0 rfl) ?_
  refine r_iload_n cx dJ1_charAt_3b067_7 (lv_at hl 1 rfl) ?_
  refine va_tb cx.1 cx.2.1 (cx.hZ.2.2.2.2 k hk).2.2.2 hP.2 hi rfl dJ1_charAt_3b067_8 ?_
  refine r_sipush cx 255 dJ1_charAt_3b067_9 (by decide) ?_
  refine lv_iand cx.1 cx.2.1 dJ1_charAt_3b067_12 ?_
  refine lv_i2c cx.1 cx.2.1 dJ1_charAt_3b067_13 rfl ?_
  refine r_zret cx hP hr hk' hs3 dJ1_charAt_3b067_14 ?_
  rw [hs4]
set_option maxHeartbeats 4000000 in
set_option maxRecDepth 100000 in
theorem wJ_charAt (l : Launch) (Y : Sys) (Γ : Wc) (ad : Nat → Nat → Nat) (A : Nat → Prop) (k : Nat) (hk : k < strN) (i : Int32) (hi : vp_in i (strB k).length) (σ : Sig) : MI l Y Γ ad A yJ0_charAt_5068e cJ0_charAt_5068e 2 (some .char) 3 65 [.ref (Γ.2.2.1 k), .int i] σ (strA k i.toNatClampNeg) σ := by
  have hlt : i.toNatClampNeg < (strB k).length := Nat.not_le.mp fun q => hi (Or.inr q)
  obtain ⟨hs1, hs2⟩ := str_small k hk
  obtain ⟨hs3, hs4⟩ := hs2 _ hlt
  refine MI.of (by decide) (Nat.le_of_ble_eq_true rfl) ?_
  intro p e s m args below meth c ls cx hr hk' hP hl
  have hl : lv_has ls 2 [(0, .ref (Γ.2.2.1 k)), (1, .int i)] := hl
  refine r_aload_n cx dJ0_charAt_5068e_0 (lv_at hl 0 rfl) ?_
  refine r_callSt cx hP (As := []) hk (wJ_latin l Y Γ ad A k hk σ) rfl js_mlatin ⟨Nat.le_of_ble_eq_true rfl, Nat.le_of_ble_eq_true rfl⟩ rfl (Nat.le_of_ble_eq_true rfl) hl.1 ⟨Nat.zero_le _, Nat.zero_le _⟩ dJ0_charAt_5068e_1 (fun H locs hP => ?_)
  refine lv_if_eq (tgt := 16) cx.1 cx.2.1 dJ0_charAt_5068e_4 (by decide) (fun h => absurd h (by decide)) (fun _ => ?_)
  refine r_aload_n cx dJ0_charAt_5068e_7 (lv_at hl 0 rfl) ?_
  refine vk_getf cx.1 cx.2.1 (cx.hZ.2.2.2.2 k hk).2.2.1 hP.2 cx.hown (cx.hts _ js_value) (fun _ h => h) dJ0_charAt_5068e_8 ?_
  refine r_iload_n cx dJ0_charAt_5068e_11 (lv_at hl 1 rfl) ?_
  refine r_callSi cx hP (As := [.ref (Γ.2.2.2 k), .int i]) (wJ_char1 l Y Γ ad A k hk i hi σ) js_mchar ⟨Nat.le_of_ble_eq_true rfl, Nat.le_of_ble_eq_true rfl⟩ rfl (Nat.le_of_ble_eq_true rfl) hl.1 ⟨Nat.zero_le _, Nat.zero_le _⟩ dJ0_charAt_5068e_12 (fun H locs hP => ?_)
  exact r_zret cx hP hr hk' (by rw [hs4] at hs3; exact hs3) dJ0_charAt_5068e_15 rfl
set_option maxHeartbeats 4000000 in
set_option maxRecDepth 100000 in
theorem wJ_bitc (l : Launch) (Y : Sys) (Γ : Wc) (ad : Nat → Nat → Nat) (A : Nat → Prop) (x : Int32) (σ : Sig) : MI l Y Γ ad A yJ6_bitCount_0f7a4 cJ6_bitCount_0f7a4 1 (some .int) 0 0 [.int x] σ (bitc x) σ := by
  refine MI.of (by decide) (Nat.le_of_ble_eq_true rfl) ?_
  intro p e s m args below meth c ls cx hr hk hP hl
  have hl : lv_has ls 1 [(0, .int x)] := hl
  refine r_iload_n cx dJ6_bitCount_0f7a4_0 (lv_at hl 0 rfl) ?_
  refine r_iload_n cx dJ6_bitCount_0f7a4_1 (lv_at hl 0 rfl) ?_
  refine r_iconst cx 1 dJ6_bitCount_0f7a4_2 (by decide) ?_
  refine lv_iushr cx.1 cx.2.1 dJ6_bitCount_0f7a4_3 rfl ?_
  refine lv_ldcw cx.1 cx.2.1 cx.hown (cx.hts _ jb_265) dJ6_bitCount_0f7a4_4 ?_
  refine lv_iand cx.1 cx.2.1 dJ6_bitCount_0f7a4_7 ?_
  refine lv_isub cx.1 cx.2.1 dJ6_bitCount_0f7a4_8 ?_
  refine lv_topi (fun y1 ey1 => ?_)
  refine r_istore_n cx [(0, .int y1)] dJ6_bitCount_0f7a4_9 hl (by decide) rfl (fun ls hl => ?_)
  refine r_iload_n cx dJ6_bitCount_0f7a4_10 (lv_at hl 0 rfl) ?_
  refine lv_ldcw cx.1 cx.2.1 cx.hown (cx.hts _ jb_266) dJ6_bitCount_0f7a4_11 ?_
  refine lv_iand cx.1 cx.2.1 dJ6_bitCount_0f7a4_14 ?_
  refine r_iload_n cx dJ6_bitCount_0f7a4_15 (lv_at hl 0 rfl) ?_
  refine r_iconst cx 2 dJ6_bitCount_0f7a4_16 (by decide) ?_
  refine lv_iushr cx.1 cx.2.1 dJ6_bitCount_0f7a4_17 rfl ?_
  refine lv_ldcw cx.1 cx.2.1 cx.hown (cx.hts _ jb_266) dJ6_bitCount_0f7a4_18 ?_
  refine lv_iand cx.1 cx.2.1 dJ6_bitCount_0f7a4_21 ?_
  refine lv_iadd cx.1 cx.2.1 dJ6_bitCount_0f7a4_22 ?_
  refine lv_topi (fun y2 ey2 => ?_)
  refine r_istore_n cx [(0, .int y2)] dJ6_bitCount_0f7a4_23 hl (by decide) rfl (fun ls hl => ?_)
  refine r_iload_n cx dJ6_bitCount_0f7a4_24 (lv_at hl 0 rfl) ?_
  refine r_iload_n cx dJ6_bitCount_0f7a4_25 (lv_at hl 0 rfl) ?_
  refine r_iconst cx 4 dJ6_bitCount_0f7a4_26 (by decide) ?_
  refine lv_iushr cx.1 cx.2.1 dJ6_bitCount_0f7a4_27 rfl ?_
  refine lv_iadd cx.1 cx.2.1 dJ6_bitCount_0f7a4_28 ?_
  refine lv_ldcw cx.1 cx.2.1 cx.hown (cx.hts _ jb_267) dJ6_bitCount_0f7a4_29 ?_
  refine lv_iand cx.1 cx.2.1 dJ6_bitCount_0f7a4_32 ?_
  refine lv_topi (fun y3 ey3 => ?_)
  refine r_istore_n cx [(0, .int y3)] dJ6_bitCount_0f7a4_33 hl (by decide) rfl (fun ls hl => ?_)
  refine r_iload_n cx dJ6_bitCount_0f7a4_34 (lv_at hl 0 rfl) ?_
  refine r_iload_n cx dJ6_bitCount_0f7a4_35 (lv_at hl 0 rfl) ?_
  refine r_bipush cx 8 dJ6_bitCount_0f7a4_36 (by decide) ?_
  refine lv_iushr cx.1 cx.2.1 dJ6_bitCount_0f7a4_38 rfl ?_
  refine lv_iadd cx.1 cx.2.1 dJ6_bitCount_0f7a4_39 ?_
  refine lv_topi (fun y4 ey4 => ?_)
  refine r_istore_n cx [(0, .int y4)] dJ6_bitCount_0f7a4_40 hl (by decide) rfl (fun ls hl => ?_)
  refine r_iload_n cx dJ6_bitCount_0f7a4_41 (lv_at hl 0 rfl) ?_
  refine r_iload_n cx dJ6_bitCount_0f7a4_42 (lv_at hl 0 rfl) ?_
  refine r_bipush cx 16 dJ6_bitCount_0f7a4_43 (by decide) ?_
  refine lv_iushr cx.1 cx.2.1 dJ6_bitCount_0f7a4_45 rfl ?_
  refine lv_iadd cx.1 cx.2.1 dJ6_bitCount_0f7a4_46 ?_
  refine lv_topi (fun y5 ey5 => ?_)
  refine r_istore_n cx [(0, .int y5)] dJ6_bitCount_0f7a4_47 hl (by decide) rfl (fun ls hl => ?_)
  refine r_iload_n cx dJ6_bitCount_0f7a4_48 (lv_at hl 0 rfl) ?_
  refine r_bipush cx 63 dJ6_bitCount_0f7a4_49 (by decide) ?_
  refine lv_iand cx.1 cx.2.1 dJ6_bitCount_0f7a4_51 ?_
  refine r_iret cx hP hr hk dJ6_bitCount_0f7a4_52 ?_
  rw [ey5, ey4, ey3, ey2, ey1]
  rfl
section FR5
variable {p : Program} {l : Launch} {e : Env} {R : Room} {s : State} {m : MethodId} {args : Array Value} {below : List Frame} {meth : Method} {c : Code} {H : Heap} {locs : List Loc} {cells slots : Nat} {Q : State → Prop}
variable {cc : ByteArray} {pc nL : Nat} {ls : Array Slot} {rest st : List Value} {Y : Sys} {Γ : Wc} {ad : Nat → Nat → Nat} {A : Nat → Prop} {σ σ' : Sig} {own : String} {ρ : Type} {res : ρ}
theorem r_strlen (cx : CX Y Γ ad A own cc nL p s m args c) (hP : PS Y Γ ad A s σ H locs) {k index : Nat} (hk : k < strN) (hw : MWv own index yJ0_length_8abf5 cJ0_length_8abf5 1 (some .int) 0) (hR : 2 ≤ R.frames ∧ 40 ≤ R.locals) (hsz : ls.size = nL) (hrs : (rest.map fun v => v.category).sum ≤ 8) (hcs : cells ≤ R.cells ∧ slots ≤ R.slots) (d : decode cc pc = .ok (.invokevirtual index, 3)) {B : Int32 → Option ρ} (hF : nm (Int32.ofNat (strB k).length) B = some res) (kk : ∀ (v : Int32) (H1 : Heap) (locs1 : List Loc), PS Y Γ ad A s σ H1 locs1 → B v = some res → W p l e R s m args below meth c H1 locs1 cells slots Q (F0 m (pc + 3) ls (.int v :: rest))) : W p l e R s m args below meth c H locs cells slots Q (F0 m pc ls (.ref (Γ.2.2.1 k) :: rest)) :=
  r_callSt cx hP (As := []) hk (wJ_length l Y Γ ad A k hk σ) rfl hw hR rfl hrs hsz hcs d (fun H1 locs1 hP1 => kk _ H1 locs1 hP1 hF)
theorem r_charAt (cx : CX Y Γ ad A own cc nL p s m args c) (hP : PS Y Γ ad A s σ H locs) {k index : Nat} (hk : k < strN) (hw : MWv own index yJ0_charAt_5068e cJ0_charAt_5068e 2 (some .char) 1) (hR : 4 ≤ R.frames ∧ 86 ≤ R.locals) {i : Int32} (hst : st = .int i :: .ref (Γ.2.2.1 k) :: rest) (hrs : (rest.map fun v => v.category).sum ≤ 8) (hsz : ls.size = nL) (hcs : cells ≤ R.cells ∧ slots ≤ R.slots) (d : decode cc pc = .ok (.invokevirtual index, 3)) {B : Int32 → Option ρ} (hF : ald (strA k) (strB k).length i B = some res) (kk : ∀ (v : Int32) (H1 : Heap) (locs1 : List Loc), PS Y Γ ad A s σ H1 locs1 → B v = some res → W p l e R s m args below meth c H1 locs1 cells slots Q (F0 m (pc + 3) ls (.int v :: rest))) : W p l e R s m args below meth c H locs cells slots Q (F0 m pc ls st) := by
  subst hst
  exact r_callSt cx hP (As := [.int i]) hk (wJ_charAt l Y Γ ad A k hk i (ald_some hF).1 σ) rfl hw hR rfl hrs hsz hcs d (fun H1 locs1 hP1 => kk _ H1 locs1 hP1 (ald_some hF).2)
theorem r_bitc (cx : CX Y Γ ad A own cc nL p s m args c) (hP : PS Y Γ ad A s σ H locs) {index : Nat} (hw : MWs own index yJ6_bitCount_0f7a4 cJ6_bitCount_0f7a4 1 (some .int) 1) (hR : 1 ≤ R.frames ∧ 20 ≤ R.locals) (hsz : ls.size = nL) (hrs : (rest.map fun v => v.category).sum ≤ 8) (hcs : cells ≤ R.cells ∧ slots ≤ R.slots) {x : Int32} (d : decode cc pc = .ok (.invokestatic index, 3)) {B : Int32 → Option ρ} (hF : nm (bitc x) B = some res) (kk : ∀ (v : Int32) (H1 : Heap) (locs1 : List Loc), PS Y Γ ad A s σ H1 locs1 → B v = some res → W p l e R s m args below meth c H1 locs1 cells slots Q (F0 m (pc + 3) ls (.int v :: rest))) : W p l e R s m args below meth c H locs cells slots Q (F0 m pc ls (.int x :: rest)) :=
  r_callSi cx hP (As := [.int x]) (wJ_bitc l Y Γ ad A x σ) hw hR rfl hrs hsz hcs d (fun H1 locs1 hP1 => kk _ H1 locs1 hP1 hF)
end FR5

