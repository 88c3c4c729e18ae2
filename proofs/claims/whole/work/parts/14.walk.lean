/-! printed: the walks -/
set_option maxHeartbeats 4000000 in
set_option maxRecDepth 100000 in
theorem w12_bedCount (l : Launch) (Γ : Wc) (ad : Nat → Nat → Nat) (A : Nat → Prop)  (σ : Sig) (r : Int32) (σ1 : Sig) (hF : f12_bedCount  σ = some (r, σ1)) : MI l SM Γ ad A yX12_bedCount cX12_bedCount 1 (some .int) 1 21 [.ref (ad 0 0)] σ r σ1 := by
  refine MI.of (by decide) (Nat.le_of_ble_eq_true rfl) ?_
  intro p e s m args below meth c ls cx hr hk hP hl
  have hl : lv_has ls 1 [(0, .ref (ad 0 0))] := hl
  rw [f12_bedCount] at hF
  refine r_aload_n cx dX12_bedCount_0 (lv_at hl 0 rfl) ?_
  refine r_iconst cx 1 dX12_bedCount_1 (by decide) ?_
  obtain ⟨v1, s2, hc, hF⟩ := bns_some hF
  refine r_callVi cx hP (As := [.int 1]) (w12_told l Γ ad A 1 σ v1 s2 hc) mw12_308 ⟨Nat.le_of_ble_eq_true rfl, Nat.le_of_ble_eq_true rfl⟩ (dMr (by decide)) rfl rfl rfl (Nat.le_of_ble_eq_true rfl) hl.1 ⟨Nat.zero_le _, Nat.zero_le _⟩ dX12_bedCount_2 (fun H locs hP => ?_)
  exact r_iret cx hP hr hk dX12_bedCount_5 hF
set_option maxHeartbeats 4000000 in
set_option maxRecDepth 100000 in
theorem w12_bedField (l : Launch) (Γ : Wc) (ad : Nat → Nat → Nat) (A : Nat → Prop) (p1 : Int32) (p2 : Int32) (σ : Sig) (r : Int32) (σ1 : Sig) (hF : f12_bedField p1 p2 σ = some (r, σ1)) : MI l SM Γ ad A yX12_bedField cX12_bedField 3 (some .int) 2 45 [.ref (ad 0 0), .int p1, .int p2] σ r σ1 := by
  refine MI.of (by decide) (Nat.le_of_ble_eq_true rfl) ?_
  intro p e s m args below meth c ls cx hr hk hP hl
  have hl : lv_has ls 3 [(0, .ref (ad 0 0)), (1, .int p1), (2, .int p2)] := hl
  rw [f12_bedField] at hF
  refine r_aload_n cx dX12_bedField_0 (lv_at hl 0 rfl) ?_
  refine r_iconst cx 0 dX12_bedField_1 (by decide) ?_
  refine pf12_63 cx hP dX12_bedField_2 hF (fun s1 H locs hP hF => ?_)
  refine r_aload_n cx dX12_bedField_5 (lv_at hl 0 rfl) ?_
  refine r_iload_n cx dX12_bedField_6 (lv_at hl 1 rfl) ?_
  obtain ⟨v2, s3, hc, hF⟩ := bns_some hF
  refine r_callVi cx hP (As := [.int p1]) (w12_noBed l Γ ad A p1 s1 v2 s3 hc) mw12_184 ⟨Nat.le_of_ble_eq_true rfl, Nat.le_of_ble_eq_true rfl⟩ (dMr (by decide)) rfl rfl rfl (Nat.le_of_ble_eq_true rfl) hl.1 ⟨Nat.zero_le _, Nat.zero_le _⟩ dX12_bedField_7 (fun H locs hP => ?_)
  refine r_if_eq cx 17 dX12_bedField_10 (by decide) hF (fun hF => ?_) (fun hF => ?_)
  · refine r_aload_n cx dX12_bedField_17 (lv_at hl 0 rfl) ?_
    refine r_iload_n cx dX12_bedField_18 (lv_at hl 1 rfl) ?_
    refine r_iload_n cx dX12_bedField_19 (lv_at hl 2 rfl) ?_
    obtain ⟨v4, hc, hF⟩ := bnd_some hF
    refine r_callVi cx hP (As := [.int p1, .int p2]) (w12_bed l Γ ad A p1 p2 s3 v4 hc) mw12_85 ⟨Nat.le_of_ble_eq_true rfl, Nat.le_of_ble_eq_true rfl⟩ (dMr (by decide)) rfl rfl rfl (Nat.le_of_ble_eq_true rfl) hl.1 ⟨Nat.zero_le _, Nat.zero_le _⟩ dX12_bedField_20 (fun H locs hP => ?_)
    exact r_iret cx hP hr hk dX12_bedField_23 hF
  · refine r_iconst cx 0 dX12_bedField_13 (by decide) ?_
    refine r_goto cx 23 dX12_bedField_14 (by decide) ?_
    exact r_iret cx hP hr hk dX12_bedField_23 hF
set_option maxHeartbeats 4000000 in
set_option maxRecDepth 100000 in
theorem w12_scentOf (l : Launch) (Γ : Wc) (ad : Nat → Nat → Nat) (A : Nat → Prop) (p1 : Int32) (σ : Sig) (r : Int32) (σ1 : Sig) (hF : f12_scentOf p1 σ = some (r, σ1)) : MI l SM Γ ad A yX12_scentOf cX12_scentOf 2 (some .int) 3 67 [.ref (ad 0 0), .int p1] σ r σ1 := by
  refine MI.of (by decide) (Nat.le_of_ble_eq_true rfl) ?_
  intro p e s m args below meth c ls cx hr hk hP hl
  have hl : lv_has ls 2 [(0, .ref (ad 0 0)), (1, .int p1)] := hl
  rw [f12_scentOf] at hF
  refine r_aload_n cx dX12_scentOf_0 (lv_at hl 0 rfl) ?_
  refine r_iload_n cx dX12_scentOf_1 (lv_at hl 1 rfl) ?_
  refine r_iconst cx 0 dX12_scentOf_2 (by decide) ?_
  obtain ⟨v1, s2, hc, hF⟩ := bns_some hF
  refine r_callVi cx hP (As := [.int p1, .int 0]) (w12_bedField l Γ ad A p1 0 σ v1 s2 hc) mw12_311 ⟨Nat.le_of_ble_eq_true rfl, Nat.le_of_ble_eq_true rfl⟩ (dMr (by decide)) rfl rfl rfl (Nat.le_of_ble_eq_true rfl) hl.1 ⟨Nat.zero_le _, Nat.zero_le _⟩ dX12_scentOf_3 (fun H locs hP => ?_)
  exact r_iret cx hP hr hk dX12_scentOf_6 hF
set_option maxHeartbeats 4000000 in
set_option maxRecDepth 100000 in
theorem w12_isInSeason (l : Launch) (Γ : Wc) (ad : Nat → Nat → Nat) (A : Nat → Prop) (p1 : Int32) (σ : Sig) (r : Int32) (σ1 : Sig) (hF : f12_isInSeason p1 σ = some (r, σ1)) : MI l SM Γ ad A yX12_isInSeason cX12_isInSeason 2 (some .boolean) 2 45 [.ref (ad 0 0), .int p1] σ r σ1 := by
  refine MI.of (by decide) (Nat.le_of_ble_eq_true rfl) ?_
  intro p e s m args below meth c ls cx hr hk hP hl
  have hl : lv_has ls 2 [(0, .ref (ad 0 0)), (1, .int p1)] := hl
  rw [f12_isInSeason] at hF
  refine r_aload_n cx dX12_isInSeason_0 (lv_at hl 0 rfl) ?_
  refine r_iconst cx 0 dX12_isInSeason_1 (by decide) ?_
  refine pf12_63 cx hP dX12_isInSeason_2 hF (fun s1 H locs hP hF => ?_)
  refine r_aload_n cx dX12_isInSeason_5 (lv_at hl 0 rfl) ?_
  refine r_iload_n cx dX12_isInSeason_6 (lv_at hl 1 rfl) ?_
  obtain ⟨v2, s3, hc, hF⟩ := bns_some hF
  refine r_callVi cx hP (As := [.int p1]) (w12_noBed l Γ ad A p1 s1 v2 s3 hc) mw12_184 ⟨Nat.le_of_ble_eq_true rfl, Nat.le_of_ble_eq_true rfl⟩ (dMr (by decide)) rfl rfl rfl (Nat.le_of_ble_eq_true rfl) hl.1 ⟨Nat.zero_le _, Nat.zero_le _⟩ dX12_isInSeason_7 (fun H locs hP => ?_)
  refine r_if_ne cx 25 dX12_isInSeason_10 (by decide) hF (fun hF => ?_) (fun hF => ?_)
  · refine r_iconst cx 0 dX12_isInSeason_25 (by decide) ?_
    exact r_zret cx hP hr hk (by decide) dX12_isInSeason_26 hF
  · refine r_aload_n cx dX12_isInSeason_13 (lv_at hl 0 rfl) ?_
    refine r_iload_n cx dX12_isInSeason_14 (lv_at hl 1 rfl) ?_
    obtain ⟨v4, hc, hF⟩ := bnd_some hF
    refine r_callVi cx hP (As := [.int p1]) (w12_inSeason l Γ ad A p1 s3 v4 hc) mw12_91 ⟨Nat.le_of_ble_eq_true rfl, Nat.le_of_ble_eq_true rfl⟩ (dMr (by decide)) rfl rfl rfl (Nat.le_of_ble_eq_true rfl) hl.1 ⟨Nat.zero_le _, Nat.zero_le _⟩ dX12_isInSeason_15 (fun H locs hP => ?_)
    refine r_if_eq cx 25 dX12_isInSeason_18 (by decide) hF (fun hF => ?_) (fun hF => ?_)
    · refine r_iconst cx 0 dX12_isInSeason_25 (by decide) ?_
      exact r_zret cx hP hr hk (by decide) dX12_isInSeason_26 hF
    · refine r_iconst cx 1 dX12_isInSeason_21 (by decide) ?_
      refine r_goto cx 26 dX12_isInSeason_22 (by decide) ?_
      exact r_zret cx hP hr hk (by decide) dX12_isInSeason_26 hF
set_option maxHeartbeats 4000000 in
set_option maxRecDepth 100000 in
theorem w12_blooms (l : Launch) (Γ : Wc) (ad : Nat → Nat → Nat) (A : Nat → Prop) (p1 : Int32) (σ : Sig) (r : Int32) (σ1 : Sig) (hF : f12_blooms p1 σ = some (r, σ1)) : MI l SM Γ ad A yX12_blooms cX12_blooms 2 (some .int) 3 67 [.ref (ad 0 0), .int p1] σ r σ1 := by
  refine MI.of (by decide) (Nat.le_of_ble_eq_true rfl) ?_
  intro p e s m args below meth c ls cx hr hk hP hl
  have hl : lv_has ls 2 [(0, .ref (ad 0 0)), (1, .int p1)] := hl
  rw [f12_blooms] at hF
  refine r_aload_n cx dX12_blooms_0 (lv_at hl 0 rfl) ?_
  refine r_iload_n cx dX12_blooms_1 (lv_at hl 1 rfl) ?_
  refine r_iconst cx 4 dX12_blooms_2 (by decide) ?_
  obtain ⟨v1, s2, hc, hF⟩ := bns_some hF
  refine r_callVi cx hP (As := [.int p1, .int 4]) (w12_bedField l Γ ad A p1 4 σ v1 s2 hc) mw12_311 ⟨Nat.le_of_ble_eq_true rfl, Nat.le_of_ble_eq_true rfl⟩ (dMr (by decide)) rfl rfl rfl (Nat.le_of_ble_eq_true rfl) hl.1 ⟨Nat.zero_le _, Nat.zero_le _⟩ dX12_blooms_3 (fun H locs hP => ?_)
  exact r_iret cx hP hr hk dX12_blooms_6 hF
set_option maxHeartbeats 4000000 in
set_option maxRecDepth 100000 in
theorem w12_placesLeft (l : Launch) (Γ : Wc) (ad : Nat → Nat → Nat) (A : Nat → Prop) (p1 : Int32) (σ : Sig) (r : Int32) (σ1 : Sig) (hF : f12_placesLeft p1 σ = some (r, σ1)) : MI l SM Γ ad A yX12_placesLeft cX12_placesLeft 2 (some .int) 2 45 [.ref (ad 0 0), .int p1] σ r σ1 := by
  refine MI.of (by decide) (Nat.le_of_ble_eq_true rfl) ?_
  intro p e s m args below meth c ls cx hr hk hP hl
  have hl : lv_has ls 2 [(0, .ref (ad 0 0)), (1, .int p1)] := hl
  rw [f12_placesLeft] at hF
  refine r_aload_n cx dX12_placesLeft_0 (lv_at hl 0 rfl) ?_
  refine r_iconst cx 0 dX12_placesLeft_1 (by decide) ?_
  refine pf12_63 cx hP dX12_placesLeft_2 hF (fun s1 H locs hP hF => ?_)
  refine r_aload_n cx dX12_placesLeft_5 (lv_at hl 0 rfl) ?_
  refine r_iload_n cx dX12_placesLeft_6 (lv_at hl 1 rfl) ?_
  obtain ⟨v2, s3, hc, hF⟩ := bns_some hF
  refine r_callVi cx hP (As := [.int p1]) (w12_noBed l Γ ad A p1 s1 v2 s3 hc) mw12_184 ⟨Nat.le_of_ble_eq_true rfl, Nat.le_of_ble_eq_true rfl⟩ (dMr (by decide)) rfl rfl rfl (Nat.le_of_ble_eq_true rfl) hl.1 ⟨Nat.zero_le _, Nat.zero_le _⟩ dX12_placesLeft_7 (fun H locs hP => ?_)
  refine r_if_eq cx 17 dX12_placesLeft_10 (by decide) hF (fun hF => ?_) (fun hF => ?_)
  · refine r_aload_n cx dX12_placesLeft_17 (lv_at hl 0 rfl) ?_
    refine r_iload_n cx dX12_placesLeft_18 (lv_at hl 1 rfl) ?_
    refine r_iconst cx 1 dX12_placesLeft_19 (by decide) ?_
    obtain ⟨v4, hc, hF⟩ := bnd_some hF
    refine r_callVi cx hP (As := [.int p1, .int 1]) (w12_bed l Γ ad A p1 1 s3 v4 hc) mw12_85 ⟨Nat.le_of_ble_eq_true rfl, Nat.le_of_ble_eq_true rfl⟩ (dMr (by decide)) rfl rfl rfl (Nat.le_of_ble_eq_true rfl) hl.1 ⟨Nat.zero_le _, Nat.zero_le _⟩ dX12_placesLeft_20 (fun H locs hP => ?_)
    refine r_aload_n cx dX12_placesLeft_23 (lv_at hl 0 rfl) ?_
    refine r_iload_n cx dX12_placesLeft_24 (lv_at hl 1 rfl) ?_
    refine r_iconst cx 5 dX12_placesLeft_25 (by decide) ?_
    obtain ⟨v5, hc, hF⟩ := bnd_some hF
    refine r_callVi cx hP (As := [.int p1, .int 5]) (w12_bed l Γ ad A p1 5 s3 v5 hc) mw12_85 ⟨Nat.le_of_ble_eq_true rfl, Nat.le_of_ble_eq_true rfl⟩ (dMr (by decide)) rfl rfl rfl (Nat.le_of_ble_eq_true rfl) hl.1 ⟨Nat.zero_le _, Nat.zero_le _⟩ dX12_placesLeft_26 (fun H locs hP => ?_)
    refine r_isub cx dX12_placesLeft_29 hF (fun v6 hF => ?_)
    exact r_iret cx hP hr hk dX12_placesLeft_30 hF
  · refine r_iconst cx 0 dX12_placesLeft_13 (by decide) ?_
    refine r_goto cx 30 dX12_placesLeft_14 (by decide) ?_
    exact r_iret cx hP hr hk dX12_placesLeft_30 hF
set_option maxHeartbeats 4000000 in
set_option maxRecDepth 100000 in
theorem w12_visitsTo (l : Launch) (Γ : Wc) (ad : Nat → Nat → Nat) (A : Nat → Prop) (p1 : Int32) (σ : Sig) (r : Int32) (σ1 : Sig) (hF : f12_visitsTo p1 σ = some (r, σ1)) : MI l SM Γ ad A yX12_visitsTo cX12_visitsTo 2 (some .int) 3 67 [.ref (ad 0 0), .int p1] σ r σ1 := by
  refine MI.of (by decide) (Nat.le_of_ble_eq_true rfl) ?_
  intro p e s m args below meth c ls cx hr hk hP hl
  have hl : lv_has ls 2 [(0, .ref (ad 0 0)), (1, .int p1)] := hl
  rw [f12_visitsTo] at hF
  refine r_aload_n cx dX12_visitsTo_0 (lv_at hl 0 rfl) ?_
  refine r_iload_n cx dX12_visitsTo_1 (lv_at hl 1 rfl) ?_
  refine r_bipush cx 6 dX12_visitsTo_2 (by decide) ?_
  obtain ⟨v1, s2, hc, hF⟩ := bns_some hF
  refine r_callVi cx hP (As := [.int p1, .int 6]) (w12_bedField l Γ ad A p1 6 σ v1 s2 hc) mw12_311 ⟨Nat.le_of_ble_eq_true rfl, Nat.le_of_ble_eq_true rfl⟩ (dMr (by decide)) rfl rfl rfl (Nat.le_of_ble_eq_true rfl) hl.1 ⟨Nat.zero_le _, Nat.zero_le _⟩ dX12_visitsTo_4 (fun H locs hP => ?_)
  exact r_iret cx hP hr hk dX12_visitsTo_7 hF
set_option maxHeartbeats 4000000 in
set_option maxRecDepth 100000 in
theorem w12_passCount (l : Launch) (Γ : Wc) (ad : Nat → Nat → Nat) (A : Nat → Prop)  (σ : Sig) (r : Int32) (σ1 : Sig) (hF : f12_passCount  σ = some (r, σ1)) : MI l SM Γ ad A yX12_passCount cX12_passCount 1 (some .int) 1 21 [.ref (ad 0 0)] σ r σ1 := by
  refine MI.of (by decide) (Nat.le_of_ble_eq_true rfl) ?_
  intro p e s m args below meth c ls cx hr hk hP hl
  have hl : lv_has ls 1 [(0, .ref (ad 0 0))] := hl
  rw [f12_passCount] at hF
  refine r_aload_n cx dX12_passCount_0 (lv_at hl 0 rfl) ?_
  refine r_iconst cx 2 dX12_passCount_1 (by decide) ?_
  obtain ⟨v1, s2, hc, hF⟩ := bns_some hF
  refine r_callVi cx hP (As := [.int 2]) (w12_told l Γ ad A 2 σ v1 s2 hc) mw12_308 ⟨Nat.le_of_ble_eq_true rfl, Nat.le_of_ble_eq_true rfl⟩ (dMr (by decide)) rfl rfl rfl (Nat.le_of_ble_eq_true rfl) hl.1 ⟨Nat.zero_le _, Nat.zero_le _⟩ dX12_passCount_2 (fun H locs hP => ?_)
  exact r_iret cx hP hr hk dX12_passCount_5 hF
set_option maxHeartbeats 4000000 in
set_option maxRecDepth 100000 in
theorem w12_field (l : Launch) (Γ : Wc) (ad : Nat → Nat → Nat) (A : Nat → Prop) (p1 : Int32) (p2 : Int32) (σ : Sig) (r : Int32) (σ1 : Sig) (hF : f12_field p1 p2 σ = some (r, σ1)) : MI l SM Γ ad A yX12_field cX12_field 3 (some .int) 2 45 [.ref (ad 0 0), .int p1, .int p2] σ r σ1 := by
  refine MI.of (by decide) (Nat.le_of_ble_eq_true rfl) ?_
  intro p e s m args below meth c ls cx hr hk hP hl
  have hl : lv_has ls 3 [(0, .ref (ad 0 0)), (1, .int p1), (2, .int p2)] := hl
  rw [f12_field] at hF
  refine r_aload_n cx dX12_field_0 (lv_at hl 0 rfl) ?_
  refine r_iconst cx 0 dX12_field_1 (by decide) ?_
  refine pf12_63 cx hP dX12_field_2 hF (fun s1 H locs hP hF => ?_)
  refine r_aload_n cx dX12_field_5 (lv_at hl 0 rfl) ?_
  refine r_iload_n cx dX12_field_6 (lv_at hl 1 rfl) ?_
  obtain ⟨v2, s3, hc, hF⟩ := bns_some hF
  refine r_callVi cx hP (As := [.int p1]) (w12_noPass l Γ ad A p1 s1 v2 s3 hc) mw12_163 ⟨Nat.le_of_ble_eq_true rfl, Nat.le_of_ble_eq_true rfl⟩ (dMr (by decide)) rfl rfl rfl (Nat.le_of_ble_eq_true rfl) hl.1 ⟨Nat.zero_le _, Nat.zero_le _⟩ dX12_field_7 (fun H locs hP => ?_)
  refine r_if_eq cx 17 dX12_field_10 (by decide) hF (fun hF => ?_) (fun hF => ?_)
  · refine r_aload_n cx dX12_field_17 (lv_at hl 0 rfl) ?_
    refine r_iload_n cx dX12_field_18 (lv_at hl 1 rfl) ?_
    refine r_iload_n cx dX12_field_19 (lv_at hl 2 rfl) ?_
    obtain ⟨v4, hc, hF⟩ := bnd_some hF
    refine r_callVi cx hP (As := [.int p1, .int p2]) (w12_of l Γ ad A p1 p2 s3 v4 hc) mw12_88 ⟨Nat.le_of_ble_eq_true rfl, Nat.le_of_ble_eq_true rfl⟩ (dMr (by decide)) rfl rfl rfl (Nat.le_of_ble_eq_true rfl) hl.1 ⟨Nat.zero_le _, Nat.zero_le _⟩ dX12_field_20 (fun H locs hP => ?_)
    exact r_iret cx hP hr hk dX12_field_23 hF
  · refine r_iconst cx 0 dX12_field_13 (by decide) ?_
    refine r_goto cx 23 dX12_field_14 (by decide) ?_
    exact r_iret cx hP hr hk dX12_field_23 hF
set_option maxHeartbeats 4000000 in
set_option maxRecDepth 100000 in
theorem w12_scentsOf (l : Launch) (Γ : Wc) (ad : Nat → Nat → Nat) (A : Nat → Prop) (p1 : Int32) (σ : Sig) (r : Int32) (σ1 : Sig) (hF : f12_scentsOf p1 σ = some (r, σ1)) : MI l SM Γ ad A yX12_scentsOf cX12_scentsOf 2 (some .int) 3 67 [.ref (ad 0 0), .int p1] σ r σ1 := by
  refine MI.of (by decide) (Nat.le_of_ble_eq_true rfl) ?_
  intro p e s m args below meth c ls cx hr hk hP hl
  have hl : lv_has ls 2 [(0, .ref (ad 0 0)), (1, .int p1)] := hl
  rw [f12_scentsOf] at hF
  refine r_aload_n cx dX12_scentsOf_0 (lv_at hl 0 rfl) ?_
  refine r_iload_n cx dX12_scentsOf_1 (lv_at hl 1 rfl) ?_
  refine r_iconst cx 0 dX12_scentsOf_2 (by decide) ?_
  obtain ⟨v1, s2, hc, hF⟩ := bns_some hF
  refine r_callVi cx hP (As := [.int p1, .int 0]) (w12_field l Γ ad A p1 0 σ v1 s2 hc) mw12_314 ⟨Nat.le_of_ble_eq_true rfl, Nat.le_of_ble_eq_true rfl⟩ (dMr (by decide)) rfl rfl rfl (Nat.le_of_ble_eq_true rfl) hl.1 ⟨Nat.zero_le _, Nat.zero_le _⟩ dX12_scentsOf_3 (fun H locs hP => ?_)
  exact r_iret cx hP hr hk dX12_scentsOf_6 hF
set_option maxHeartbeats 4000000 in
set_option maxRecDepth 100000 in
theorem w12_firstDay (l : Launch) (Γ : Wc) (ad : Nat → Nat → Nat) (A : Nat → Prop) (p1 : Int32) (σ : Sig) (r : Int32) (σ1 : Sig) (hF : f12_firstDay p1 σ = some (r, σ1)) : MI l SM Γ ad A yX12_firstDay cX12_firstDay 2 (some .int) 3 67 [.ref (ad 0 0), .int p1] σ r σ1 := by
  refine MI.of (by decide) (Nat.le_of_ble_eq_true rfl) ?_
  intro p e s m args below meth c ls cx hr hk hP hl
  have hl : lv_has ls 2 [(0, .ref (ad 0 0)), (1, .int p1)] := hl
  rw [f12_firstDay] at hF
  refine r_aload_n cx dX12_firstDay_0 (lv_at hl 0 rfl) ?_
  refine r_iload_n cx dX12_firstDay_1 (lv_at hl 1 rfl) ?_
  refine r_iconst cx 1 dX12_firstDay_2 (by decide) ?_
  obtain ⟨v1, s2, hc, hF⟩ := bns_some hF
  refine r_callVi cx hP (As := [.int p1, .int 1]) (w12_field l Γ ad A p1 1 σ v1 s2 hc) mw12_314 ⟨Nat.le_of_ble_eq_true rfl, Nat.le_of_ble_eq_true rfl⟩ (dMr (by decide)) rfl rfl rfl (Nat.le_of_ble_eq_true rfl) hl.1 ⟨Nat.zero_le _, Nat.zero_le _⟩ dX12_firstDay_3 (fun H locs hP => ?_)
  exact r_iret cx hP hr hk dX12_firstDay_6 hF
set_option maxHeartbeats 4000000 in
set_option maxRecDepth 100000 in
theorem w12_lastDay (l : Launch) (Γ : Wc) (ad : Nat → Nat → Nat) (A : Nat → Prop) (p1 : Int32) (σ : Sig) (r : Int32) (σ1 : Sig) (hF : f12_lastDay p1 σ = some (r, σ1)) : MI l SM Γ ad A yX12_lastDay cX12_lastDay 2 (some .int) 2 45 [.ref (ad 0 0), .int p1] σ r σ1 := by
  refine MI.of (by decide) (Nat.le_of_ble_eq_true rfl) ?_
  intro p e s m args below meth c ls cx hr hk hP hl
  have hl : lv_has ls 2 [(0, .ref (ad 0 0)), (1, .int p1)] := hl
  rw [f12_lastDay] at hF
  refine r_aload_n cx dX12_lastDay_0 (lv_at hl 0 rfl) ?_
  refine r_iconst cx 0 dX12_lastDay_1 (by decide) ?_
  refine pf12_63 cx hP dX12_lastDay_2 hF (fun s1 H locs hP hF => ?_)
  refine r_aload_n cx dX12_lastDay_5 (lv_at hl 0 rfl) ?_
  refine r_iload_n cx dX12_lastDay_6 (lv_at hl 1 rfl) ?_
  obtain ⟨v2, s3, hc, hF⟩ := bns_some hF
  refine r_callVi cx hP (As := [.int p1]) (w12_noPass l Γ ad A p1 s1 v2 s3 hc) mw12_163 ⟨Nat.le_of_ble_eq_true rfl, Nat.le_of_ble_eq_true rfl⟩ (dMr (by decide)) rfl rfl rfl (Nat.le_of_ble_eq_true rfl) hl.1 ⟨Nat.zero_le _, Nat.zero_le _⟩ dX12_lastDay_7 (fun H locs hP => ?_)
  refine r_if_eq cx 17 dX12_lastDay_10 (by decide) hF (fun hF => ?_) (fun hF => ?_)
  · refine r_aload_n cx dX12_lastDay_17 (lv_at hl 0 rfl) ?_
    refine r_iload_n cx dX12_lastDay_18 (lv_at hl 1 rfl) ?_
    obtain ⟨v4, hc, hF⟩ := bnd_some hF
    refine r_callVi cx hP (As := [.int p1]) (w12_lastOf l Γ ad A p1 s3 v4 hc) mw12_114 ⟨Nat.le_of_ble_eq_true rfl, Nat.le_of_ble_eq_true rfl⟩ (dMr (by decide)) rfl rfl rfl (Nat.le_of_ble_eq_true rfl) hl.1 ⟨Nat.zero_le _, Nat.zero_le _⟩ dX12_lastDay_19 (fun H locs hP => ?_)
    exact r_iret cx hP hr hk dX12_lastDay_22 hF
  · refine r_iconst cx 0 dX12_lastDay_13 (by decide) ?_
    refine r_goto cx 22 dX12_lastDay_14 (by decide) ?_
    exact r_iret cx hP hr hk dX12_lastDay_22 hF
set_option maxHeartbeats 4000000 in
set_option maxRecDepth 100000 in
theorem w12_priceOf (l : Launch) (Γ : Wc) (ad : Nat → Nat → Nat) (A : Nat → Prop) (p1 : Int32) (σ : Sig) (r : Int32) (σ1 : Sig) (hF : f12_priceOf p1 σ = some (r, σ1)) : MI l SM Γ ad A yX12_priceOf cX12_priceOf 2 (some .int) 3 67 [.ref (ad 0 0), .int p1] σ r σ1 := by
  refine MI.of (by decide) (Nat.le_of_ble_eq_true rfl) ?_
  intro p e s m args below meth c ls cx hr hk hP hl
  have hl : lv_has ls 2 [(0, .ref (ad 0 0)), (1, .int p1)] := hl
  rw [f12_priceOf] at hF
  refine r_aload_n cx dX12_priceOf_0 (lv_at hl 0 rfl) ?_
  refine r_iload_n cx dX12_priceOf_1 (lv_at hl 1 rfl) ?_
  refine r_iconst cx 4 dX12_priceOf_2 (by decide) ?_
  obtain ⟨v1, s2, hc, hF⟩ := bns_some hF
  refine r_callVi cx hP (As := [.int p1, .int 4]) (w12_field l Γ ad A p1 4 σ v1 s2 hc) mw12_314 ⟨Nat.le_of_ble_eq_true rfl, Nat.le_of_ble_eq_true rfl⟩ (dMr (by decide)) rfl rfl rfl (Nat.le_of_ble_eq_true rfl) hl.1 ⟨Nat.zero_le _, Nat.zero_le _⟩ dX12_priceOf_3 (fun H locs hP => ?_)
  exact r_iret cx hP hr hk dX12_priceOf_6 hF
set_option maxHeartbeats 4000000 in
set_option maxRecDepth 100000 in
theorem w12_cardOf (l : Launch) (Γ : Wc) (ad : Nat → Nat → Nat) (A : Nat → Prop) (p1 : Int32) (σ : Sig) (r : Int32) (σ1 : Sig) (hF : f12_cardOf p1 σ = some (r, σ1)) : MI l SM Γ ad A yX12_cardOf cX12_cardOf 2 (some .int) 3 67 [.ref (ad 0 0), .int p1] σ r σ1 := by
  refine MI.of (by decide) (Nat.le_of_ble_eq_true rfl) ?_
  intro p e s m args below meth c ls cx hr hk hP hl
  have hl : lv_has ls 2 [(0, .ref (ad 0 0)), (1, .int p1)] := hl
  rw [f12_cardOf] at hF
  refine r_aload_n cx dX12_cardOf_0 (lv_at hl 0 rfl) ?_
  refine r_iload_n cx dX12_cardOf_1 (lv_at hl 1 rfl) ?_
  refine r_iconst cx 5 dX12_cardOf_2 (by decide) ?_
  obtain ⟨v1, s2, hc, hF⟩ := bns_some hF
  refine r_callVi cx hP (As := [.int p1, .int 5]) (w12_field l Γ ad A p1 5 σ v1 s2 hc) mw12_314 ⟨Nat.le_of_ble_eq_true rfl, Nat.le_of_ble_eq_true rfl⟩ (dMr (by decide)) rfl rfl rfl (Nat.le_of_ble_eq_true rfl) hl.1 ⟨Nat.zero_le _, Nat.zero_le _⟩ dX12_cardOf_3 (fun H locs hP => ?_)
  exact r_iret cx hP hr hk dX12_cardOf_6 hF
set_option maxHeartbeats 4000000 in
set_option maxRecDepth 100000 in
theorem w12_isReturned (l : Launch) (Γ : Wc) (ad : Nat → Nat → Nat) (A : Nat → Prop) (p1 : Int32) (σ : Sig) (r : Int32) (σ1 : Sig) (hF : f12_isReturned p1 σ = some (r, σ1)) : MI l SM Γ ad A yX12_isReturned cX12_isReturned 2 (some .boolean) 3 67 [.ref (ad 0 0), .int p1] σ r σ1 := by
  refine MI.of (by decide) (Nat.le_of_ble_eq_true rfl) ?_
  intro p e s m args below meth c ls cx hr hk hP hl
  have hl : lv_has ls 2 [(0, .ref (ad 0 0)), (1, .int p1)] := hl
  rw [f12_isReturned] at hF
  refine r_aload_n cx dX12_isReturned_0 (lv_at hl 0 rfl) ?_
  refine r_iload_n cx dX12_isReturned_1 (lv_at hl 1 rfl) ?_
  refine r_bipush cx 6 dX12_isReturned_2 (by decide) ?_
  obtain ⟨v1, s2, hc, hF⟩ := bns_some hF
  refine r_callVi cx hP (As := [.int p1, .int 6]) (w12_field l Γ ad A p1 6 σ v1 s2 hc) mw12_314 ⟨Nat.le_of_ble_eq_true rfl, Nat.le_of_ble_eq_true rfl⟩ (dMr (by decide)) rfl rfl rfl (Nat.le_of_ble_eq_true rfl) hl.1 ⟨Nat.zero_le _, Nat.zero_le _⟩ dX12_isReturned_4 (fun H locs hP => ?_)
  refine r_iconst cx 1 dX12_isReturned_7 (by decide) ?_
  refine r_icmp_ne cx 15 dX12_isReturned_8 (by decide) hF (fun hF => ?_) (fun hF => ?_)
  · refine r_iconst cx 0 dX12_isReturned_15 (by decide) ?_
    exact r_zret cx hP hr hk (by decide) dX12_isReturned_16 hF
  · refine r_iconst cx 1 dX12_isReturned_11 (by decide) ?_
    refine r_goto cx 16 dX12_isReturned_12 (by decide) ?_
    exact r_zret cx hP hr hk (by decide) dX12_isReturned_16 hF
set_option maxHeartbeats 4000000 in
set_option maxRecDepth 100000 in
theorem w12_usedDays (l : Launch) (Γ : Wc) (ad : Nat → Nat → Nat) (A : Nat → Prop) (p1 : Int32) (σ : Sig) (r : Int32) (σ1 : Sig) (hF : f12_usedDays p1 σ = some (r, σ1)) : MI l SM Γ ad A yX12_usedDays cX12_usedDays 2 (some .int) 2 45 [.ref (ad 0 0), .int p1] σ r σ1 := by
  refine MI.of (by decide) (Nat.le_of_ble_eq_true rfl) ?_
  intro p e s m args below meth c ls cx hr hk hP hl
  have hl : lv_has ls 2 [(0, .ref (ad 0 0)), (1, .int p1)] := hl
  rw [f12_usedDays] at hF
  refine r_aload_n cx dX12_usedDays_0 (lv_at hl 0 rfl) ?_
  refine r_iconst cx 0 dX12_usedDays_1 (by decide) ?_
  refine pf12_63 cx hP dX12_usedDays_2 hF (fun s1 H locs hP hF => ?_)
  refine r_aload_n cx dX12_usedDays_5 (lv_at hl 0 rfl) ?_
  refine r_iload_n cx dX12_usedDays_6 (lv_at hl 1 rfl) ?_
  obtain ⟨v2, s3, hc, hF⟩ := bns_some hF
  refine r_callVi cx hP (As := [.int p1]) (w12_noPass l Γ ad A p1 s1 v2 s3 hc) mw12_163 ⟨Nat.le_of_ble_eq_true rfl, Nat.le_of_ble_eq_true rfl⟩ (dMr (by decide)) rfl rfl rfl (Nat.le_of_ble_eq_true rfl) hl.1 ⟨Nat.zero_le _, Nat.zero_le _⟩ dX12_usedDays_7 (fun H locs hP => ?_)
  refine r_if_eq cx 17 dX12_usedDays_10 (by decide) hF (fun hF => ?_) (fun hF => ?_)
  · refine r_aload_n cx dX12_usedDays_17 (lv_at hl 0 rfl) ?_
    refine r_iload_n cx dX12_usedDays_18 (lv_at hl 1 rfl) ?_
    refine r_bipush cx 7 dX12_usedDays_19 (by decide) ?_
    obtain ⟨v4, hc, hF⟩ := bnd_some hF
    refine r_callVi cx hP (As := [.int p1, .int 7]) (w12_of l Γ ad A p1 7 s3 v4 hc) mw12_88 ⟨Nat.le_of_ble_eq_true rfl, Nat.le_of_ble_eq_true rfl⟩ (dMr (by decide)) rfl rfl rfl (Nat.le_of_ble_eq_true rfl) hl.1 ⟨Nat.zero_le _, Nat.zero_le _⟩ dX12_usedDays_21 (fun H locs hP => ?_)
    obtain ⟨v5, hc, hF⟩ := bnd_some hF
    refine r_callSi cx hP (As := [.int v4]) (w12_ones l Γ ad A v4 s3 v5 hc) mw12_317 ⟨Nat.le_of_ble_eq_true rfl, Nat.le_of_ble_eq_true rfl⟩ rfl (Nat.le_of_ble_eq_true rfl) hl.1 ⟨Nat.zero_le _, Nat.zero_le _⟩ dX12_usedDays_24 (fun H locs hP => ?_)
    exact r_iret cx hP hr hk dX12_usedDays_27 hF
  · refine r_iconst cx 0 dX12_usedDays_13 (by decide) ?_
    refine r_goto cx 27 dX12_usedDays_14 (by decide) ?_
    exact r_iret cx hP hr hk dX12_usedDays_27 hF
set_option maxHeartbeats 4000000 in
set_option maxRecDepth 100000 in
theorem w12_visitsWith (l : Launch) (Γ : Wc) (ad : Nat → Nat → Nat) (A : Nat → Prop) (p1 : Int32) (σ : Sig) (r : Int32) (σ1 : Sig) (hF : f12_visitsWith p1 σ = some (r, σ1)) : MI l SM Γ ad A yX12_visitsWith cX12_visitsWith 2 (some .int) 3 67 [.ref (ad 0 0), .int p1] σ r σ1 := by
  refine MI.of (by decide) (Nat.le_of_ble_eq_true rfl) ?_
  intro p e s m args below meth c ls cx hr hk hP hl
  have hl : lv_has ls 2 [(0, .ref (ad 0 0)), (1, .int p1)] := hl
  rw [f12_visitsWith] at hF
  refine r_aload_n cx dX12_visitsWith_0 (lv_at hl 0 rfl) ?_
  refine r_iload_n cx dX12_visitsWith_1 (lv_at hl 1 rfl) ?_
  refine r_bipush cx 8 dX12_visitsWith_2 (by decide) ?_
  obtain ⟨v1, s2, hc, hF⟩ := bns_some hF
  refine r_callVi cx hP (As := [.int p1, .int 8]) (w12_field l Γ ad A p1 8 σ v1 s2 hc) mw12_314 ⟨Nat.le_of_ble_eq_true rfl, Nat.le_of_ble_eq_true rfl⟩ (dMr (by decide)) rfl rfl rfl (Nat.le_of_ble_eq_true rfl) hl.1 ⟨Nat.zero_le _, Nat.zero_le _⟩ dX12_visitsWith_4 (fun H locs hP => ?_)
  exact r_iret cx hP hr hk dX12_visitsWith_7 hF
set_option maxHeartbeats 4000000 in
set_option maxRecDepth 100000 in
theorem w12_refundOf (l : Launch) (Γ : Wc) (ad : Nat → Nat → Nat) (A : Nat → Prop) (p1 : Int32) (σ : Sig) (r : Int32) (σ1 : Sig) (hF : f12_refundOf p1 σ = some (r, σ1)) : MI l SM Γ ad A yX12_refundOf cX12_refundOf 2 (some .int) 2 46 [.ref (ad 0 0), .int p1] σ r σ1 := by
  refine MI.of (by decide) (Nat.le_of_ble_eq_true rfl) ?_
  intro p e s m args below meth c ls cx hr hk hP hl
  have hl : lv_has ls 2 [(0, .ref (ad 0 0)), (1, .int p1)] := hl
  rw [f12_refundOf] at hF
  refine r_aload_n cx dX12_refundOf_0 (lv_at hl 0 rfl) ?_
  refine r_iconst cx 0 dX12_refundOf_1 (by decide) ?_
  refine pf12_63 cx hP dX12_refundOf_2 hF (fun s1 H locs hP hF => ?_)
  refine r_aload_n cx dX12_refundOf_5 (lv_at hl 0 rfl) ?_
  refine r_iload_n cx dX12_refundOf_6 (lv_at hl 1 rfl) ?_
  obtain ⟨v2, s3, hc, hF⟩ := bns_some hF
  refine r_callVi cx hP (As := [.int p1]) (w12_noPass l Γ ad A p1 s1 v2 s3 hc) mw12_163 ⟨Nat.le_of_ble_eq_true rfl, Nat.le_of_ble_eq_true rfl⟩ (dMr (by decide)) rfl rfl rfl (Nat.le_of_ble_eq_true rfl) hl.1 ⟨Nat.zero_le _, Nat.zero_le _⟩ dX12_refundOf_7 (fun H locs hP => ?_)
  refine r_if_eq cx 17 dX12_refundOf_10 (by decide) hF (fun hF => ?_) (fun hF => ?_)
  · refine r_aload_n cx dX12_refundOf_17 (lv_at hl 0 rfl) ?_
    refine r_iload_n cx dX12_refundOf_18 (lv_at hl 1 rfl) ?_
    obtain ⟨v4, hc, hF⟩ := bnd_some hF
    refine r_callVi cx hP (As := [.int p1]) (w12_refund l Γ ad A p1 s3 v4 hc) mw12_123 ⟨Nat.le_of_ble_eq_true rfl, Nat.le_of_ble_eq_true rfl⟩ (dMr (by decide)) rfl rfl rfl (Nat.le_of_ble_eq_true rfl) hl.1 ⟨Nat.zero_le _, Nat.zero_le _⟩ dX12_refundOf_19 (fun H locs hP => ?_)
    exact r_iret cx hP hr hk dX12_refundOf_22 hF
  · refine r_iconst cx 0 dX12_refundOf_13 (by decide) ?_
    refine r_goto cx 22 dX12_refundOf_14 (by decide) ?_
    exact r_iret cx hP hr hk dX12_refundOf_22 hF
set_option maxHeartbeats 4000000 in
set_option maxRecDepth 100000 in
theorem w12_owed (l : Launch) (Γ : Wc) (ad : Nat → Nat → Nat) (A : Nat → Prop) (p1 : Int32) (σ : Sig) (r : Int32) (σ1 : Sig) (hF : f12_owed p1 σ = some (r, σ1)) : MI l SM Γ ad A yX12_owed cX12_owed 2 (some .int) 3 67 [.ref (ad 0 0), .int p1] σ r σ1 := by
  refine MI.of (by decide) (Nat.le_of_ble_eq_true rfl) ?_
  intro p e s m args below meth c ls cx hr hk hP hl
  have hl : lv_has ls 2 [(0, .ref (ad 0 0)), (1, .int p1)] := hl
  rw [f12_owed] at hF
  refine r_aload_n cx dX12_owed_0 (lv_at hl 0 rfl) ?_
  refine r_iload_n cx dX12_owed_1 (lv_at hl 1 rfl) ?_
  refine r_bipush cx 11 dX12_owed_2 (by decide) ?_
  obtain ⟨v1, s2, hc, hF⟩ := bns_some hF
  refine r_callVi cx hP (As := [.int p1, .int 11]) (w12_field l Γ ad A p1 11 σ v1 s2 hc) mw12_314 ⟨Nat.le_of_ble_eq_true rfl, Nat.le_of_ble_eq_true rfl⟩ (dMr (by decide)) rfl rfl rfl (Nat.le_of_ble_eq_true rfl) hl.1 ⟨Nat.zero_le _, Nat.zero_le _⟩ dX12_owed_4 (fun H locs hP => ?_)
  exact r_iret cx hP hr hk dX12_owed_7 hF
set_option maxHeartbeats 4000000 in
set_option maxRecDepth 100000 in
theorem w12_ticksUntilReady (l : Launch) (Γ : Wc) (ad : Nat → Nat → Nat) (A : Nat → Prop) (p1 : Int32) (σ : Sig) (r : Int32) (σ1 : Sig) (hF : f12_ticksUntilReady p1 σ = some (r, σ1)) : MI l SM Γ ad A yX12_ticksUntilReady cX12_ticksUntilReady 3 (some .int) 2 45 [.ref (ad 0 0), .int p1] σ r σ1 := by
  refine MI.of (by decide) (Nat.le_of_ble_eq_true rfl) ?_
  intro p e s m args below meth c ls cx hr hk hP hl
  have hl : lv_has ls 3 [(0, .ref (ad 0 0)), (1, .int p1)] := hl
  rw [f12_ticksUntilReady] at hF
  refine r_aload_n cx dX12_ticksUntilReady_0 (lv_at hl 0 rfl) ?_
  refine r_iconst cx 0 dX12_ticksUntilReady_1 (by decide) ?_
  refine pf12_63 cx hP dX12_ticksUntilReady_2 hF (fun s1 H locs hP hF => ?_)
  refine r_aload_n cx dX12_ticksUntilReady_5 (lv_at hl 0 rfl) ?_
  refine r_iload_n cx dX12_ticksUntilReady_6 (lv_at hl 1 rfl) ?_
  obtain ⟨v2, s3, hc, hF⟩ := bns_some hF
  refine r_callVi cx hP (As := [.int p1]) (w12_noPass l Γ ad A p1 s1 v2 s3 hc) mw12_163 ⟨Nat.le_of_ble_eq_true rfl, Nat.le_of_ble_eq_true rfl⟩ (dMr (by decide)) rfl rfl rfl (Nat.le_of_ble_eq_true rfl) hl.1 ⟨Nat.zero_le _, Nat.zero_le _⟩ dX12_ticksUntilReady_7 (fun H locs hP => ?_)
  refine r_if_ne cx 24 dX12_ticksUntilReady_10 (by decide) hF (fun hF => ?_) (fun hF => ?_)
  · refine r_iconst cx 0 dX12_ticksUntilReady_24 (by decide) ?_
    exact r_iret cx hP hr hk dX12_ticksUntilReady_25 hF
  · refine r_aload_n cx dX12_ticksUntilReady_13 (lv_at hl 0 rfl) ?_
    refine r_iload_n cx dX12_ticksUntilReady_14 (lv_at hl 1 rfl) ?_
    refine r_bipush cx 9 dX12_ticksUntilReady_15 (by decide) ?_
    obtain ⟨v4, hc, hF⟩ := bnd_some hF
    refine r_callVi cx hP (As := [.int p1, .int 9]) (w12_of l Γ ad A p1 9 s3 v4 hc) mw12_88 ⟨Nat.le_of_ble_eq_true rfl, Nat.le_of_ble_eq_true rfl⟩ (dMr (by decide)) rfl rfl rfl (Nat.le_of_ble_eq_true rfl) hl.1 ⟨Nat.zero_le _, Nat.zero_le _⟩ dX12_ticksUntilReady_17 (fun H locs hP => ?_)
    refine r_iconst cx (-1) dX12_ticksUntilReady_20 (by decide) ?_
    refine r_icmp_ne cx 26 dX12_ticksUntilReady_21 (by decide) hF (fun hF => ?_) (fun hF => ?_)
    · refine r_aload_n cx dX12_ticksUntilReady_26 (lv_at hl 0 rfl) ?_
      refine r_iload_n cx dX12_ticksUntilReady_27 (lv_at hl 1 rfl) ?_
      refine r_bipush cx 9 dX12_ticksUntilReady_28 (by decide) ?_
      obtain ⟨v5, hc, hF⟩ := bnd_some hF
      refine r_callVi cx hP (As := [.int p1, .int 9]) (w12_of l Γ ad A p1 9 s3 v5 hc) mw12_88 ⟨Nat.le_of_ble_eq_true rfl, Nat.le_of_ble_eq_true rfl⟩ (dMr (by decide)) rfl rfl rfl (Nat.le_of_ble_eq_true rfl) hl.1 ⟨Nat.zero_le _, Nat.zero_le _⟩ dX12_ticksUntilReady_30 (fun H locs hP => ?_)
      refine r_aload_n cx dX12_ticksUntilReady_33 (lv_at hl 0 rfl) ?_
      refine gf12_9 cx hP dX12_ticksUntilReady_34 ?_
      refine r_bipush cx 6 dX12_ticksUntilReady_37 (by decide) ?_
      refine r_iald cx hP (dMr (by decide)) rfl dX12_ticksUntilReady_39 hF (fun v6 hF => ?_)
      refine r_iadd cx dX12_ticksUntilReady_40 hF (fun v7 hF => ?_)
      refine r_aload_n cx dX12_ticksUntilReady_41 (lv_at hl 0 rfl) ?_
      refine gf12_9 cx hP dX12_ticksUntilReady_42 ?_
      refine r_iconst cx 4 dX12_ticksUntilReady_45 (by decide) ?_
      refine r_iald cx hP (dMr (by decide)) rfl dX12_ticksUntilReady_46 hF (fun v8 hF => ?_)
      refine r_isub cx dX12_ticksUntilReady_47 hF (fun v9 hF => ?_)
      refine r_istore_n cx [(2, .int v9), (0, .ref (ad 0 0)), (1, .int p1)] dX12_ticksUntilReady_48 hl (by decide) rfl (fun ls hl => ?_)
      refine r_iload_n cx dX12_ticksUntilReady_49 (lv_at hl 0 rfl) ?_
      refine r_if_ge cx 57 dX12_ticksUntilReady_50 (by decide) hF (fun hF => ?_) (fun hF => ?_)
      · refine r_iload_n cx dX12_ticksUntilReady_57 (lv_at hl 0 rfl) ?_
        exact r_iret cx hP hr hk dX12_ticksUntilReady_58 hF
      · refine r_iconst cx 0 dX12_ticksUntilReady_53 (by decide) ?_
        refine r_goto cx 58 dX12_ticksUntilReady_54 (by decide) ?_
        exact r_iret cx hP hr hk dX12_ticksUntilReady_58 hF
    · refine r_iconst cx 0 dX12_ticksUntilReady_24 (by decide) ?_
      exact r_iret cx hP hr hk dX12_ticksUntilReady_25 hF
set_option maxHeartbeats 4000000 in
set_option maxRecDepth 100000 in
theorem w12_cardCount (l : Launch) (Γ : Wc) (ad : Nat → Nat → Nat) (A : Nat → Prop)  (σ : Sig) (r : Int32) (σ1 : Sig) (hF : f12_cardCount  σ = some (r, σ1)) : MI l SM Γ ad A yX12_cardCount cX12_cardCount 1 (some .int) 1 21 [.ref (ad 0 0)] σ r σ1 := by
  refine MI.of (by decide) (Nat.le_of_ble_eq_true rfl) ?_
  intro p e s m args below meth c ls cx hr hk hP hl
  have hl : lv_has ls 1 [(0, .ref (ad 0 0))] := hl
  rw [f12_cardCount] at hF
  refine r_aload_n cx dX12_cardCount_0 (lv_at hl 0 rfl) ?_
  refine r_iconst cx 3 dX12_cardCount_1 (by decide) ?_
  obtain ⟨v1, s2, hc, hF⟩ := bns_some hF
  refine r_callVi cx hP (As := [.int 3]) (w12_told l Γ ad A 3 σ v1 s2 hc) mw12_308 ⟨Nat.le_of_ble_eq_true rfl, Nat.le_of_ble_eq_true rfl⟩ (dMr (by decide)) rfl rfl rfl (Nat.le_of_ble_eq_true rfl) hl.1 ⟨Nat.zero_le _, Nat.zero_le _⟩ dX12_cardCount_2 (fun H locs hP => ?_)
  exact r_iret cx hP hr hk dX12_cardCount_5 hF
set_option maxHeartbeats 4000000 in
set_option maxRecDepth 100000 in
theorem w12_passOf (l : Launch) (Γ : Wc) (ad : Nat → Nat → Nat) (A : Nat → Prop) (p1 : Int32) (σ : Sig) (r : Int32) (σ1 : Sig) (hF : f12_passOf p1 σ = some (r, σ1)) : MI l SM Γ ad A yX12_passOf cX12_passOf 2 (some .int) 2 45 [.ref (ad 0 0), .int p1] σ r σ1 := by
  refine MI.of (by decide) (Nat.le_of_ble_eq_true rfl) ?_
  intro p e s m args below meth c ls cx hr hk hP hl
  have hl : lv_has ls 2 [(0, .ref (ad 0 0)), (1, .int p1)] := hl
  rw [f12_passOf] at hF
  refine r_aload_n cx dX12_passOf_0 (lv_at hl 0 rfl) ?_
  refine r_iconst cx 0 dX12_passOf_1 (by decide) ?_
  refine pf12_63 cx hP dX12_passOf_2 hF (fun s1 H locs hP hF => ?_)
  refine r_aload_n cx dX12_passOf_5 (lv_at hl 0 rfl) ?_
  refine r_iload_n cx dX12_passOf_6 (lv_at hl 1 rfl) ?_
  obtain ⟨v2, s3, hc, hF⟩ := bns_some hF
  refine r_callVi cx hP (As := [.int p1]) (w12_noCard l Γ ad A p1 s1 v2 s3 hc) mw12_181 ⟨Nat.le_of_ble_eq_true rfl, Nat.le_of_ble_eq_true rfl⟩ (dMr (by decide)) rfl rfl rfl (Nat.le_of_ble_eq_true rfl) hl.1 ⟨Nat.zero_le _, Nat.zero_le _⟩ dX12_passOf_7 (fun H locs hP => ?_)
  refine r_if_eq cx 17 dX12_passOf_10 (by decide) hF (fun hF => ?_) (fun hF => ?_)
  · refine r_aload_n cx dX12_passOf_17 (lv_at hl 0 rfl) ?_
    refine r_iload_n cx dX12_passOf_18 (lv_at hl 1 rfl) ?_
    obtain ⟨v4, hc, hF⟩ := bnd_some hF
    refine r_callVi cx hP (As := [.int p1]) (w12_passOfCard l Γ ad A p1 s3 v4 hc) mw12_108 ⟨Nat.le_of_ble_eq_true rfl, Nat.le_of_ble_eq_true rfl⟩ (dMr (by decide)) rfl rfl rfl (Nat.le_of_ble_eq_true rfl) hl.1 ⟨Nat.zero_le _, Nat.zero_le _⟩ dX12_passOf_19 (fun H locs hP => ?_)
    exact r_iret cx hP hr hk dX12_passOf_22 hF
  · refine r_iconst cx 0 dX12_passOf_13 (by decide) ?_
    refine r_goto cx 22 dX12_passOf_14 (by decide) ?_
    exact r_iret cx hP hr hk dX12_passOf_22 hF
set_option maxHeartbeats 4000000 in
set_option maxRecDepth 100000 in
theorem w12_isBlocked (l : Launch) (Γ : Wc) (ad : Nat → Nat → Nat) (A : Nat → Prop) (p1 : Int32) (σ : Sig) (r : Int32) (σ1 : Sig) (hF : f12_isBlocked p1 σ = some (r, σ1)) : MI l SM Γ ad A yX12_isBlocked cX12_isBlocked 2 (some .boolean) 2 45 [.ref (ad 0 0), .int p1] σ r σ1 := by
  refine MI.of (by decide) (Nat.le_of_ble_eq_true rfl) ?_
  intro p e s m args below meth c ls cx hr hk hP hl
  have hl : lv_has ls 2 [(0, .ref (ad 0 0)), (1, .int p1)] := hl
  rw [f12_isBlocked] at hF
  refine r_aload_n cx dX12_isBlocked_0 (lv_at hl 0 rfl) ?_
  refine r_iconst cx 0 dX12_isBlocked_1 (by decide) ?_
  refine pf12_63 cx hP dX12_isBlocked_2 hF (fun s1 H locs hP hF => ?_)
  refine r_aload_n cx dX12_isBlocked_5 (lv_at hl 0 rfl) ?_
  refine r_iload_n cx dX12_isBlocked_6 (lv_at hl 1 rfl) ?_
  obtain ⟨v2, s3, hc, hF⟩ := bns_some hF
  refine r_callVi cx hP (As := [.int p1]) (w12_noCard l Γ ad A p1 s1 v2 s3 hc) mw12_181 ⟨Nat.le_of_ble_eq_true rfl, Nat.le_of_ble_eq_true rfl⟩ (dMr (by decide)) rfl rfl rfl (Nat.le_of_ble_eq_true rfl) hl.1 ⟨Nat.zero_le _, Nat.zero_le _⟩ dX12_isBlocked_7 (fun H locs hP => ?_)
  refine r_if_ne cx 25 dX12_isBlocked_10 (by decide) hF (fun hF => ?_) (fun hF => ?_)
  · refine r_iconst cx 0 dX12_isBlocked_25 (by decide) ?_
    exact r_zret cx hP hr hk (by decide) dX12_isBlocked_26 hF
  · refine r_aload_n cx dX12_isBlocked_13 (lv_at hl 0 rfl) ?_
    refine r_iload_n cx dX12_isBlocked_14 (lv_at hl 1 rfl) ?_
    obtain ⟨v4, hc, hF⟩ := bnd_some hF
    refine r_callVi cx hP (As := [.int p1]) (w12_blocked l Γ ad A p1 s3 v4 hc) mw12_111 ⟨Nat.le_of_ble_eq_true rfl, Nat.le_of_ble_eq_true rfl⟩ (dMr (by decide)) rfl rfl rfl (Nat.le_of_ble_eq_true rfl) hl.1 ⟨Nat.zero_le _, Nat.zero_le _⟩ dX12_isBlocked_15 (fun H locs hP => ?_)
    refine r_if_eq cx 25 dX12_isBlocked_18 (by decide) hF (fun hF => ?_) (fun hF => ?_)
    · refine r_iconst cx 0 dX12_isBlocked_25 (by decide) ?_
      exact r_zret cx hP hr hk (by decide) dX12_isBlocked_26 hF
    · refine r_iconst cx 1 dX12_isBlocked_21 (by decide) ?_
      refine r_goto cx 26 dX12_isBlocked_22 (by decide) ?_
      exact r_zret cx hP hr hk (by decide) dX12_isBlocked_26 hF
set_option maxHeartbeats 4000000 in
set_option maxRecDepth 100000 in
theorem w12_whyRefused (l : Launch) (Γ : Wc) (ad : Nat → Nat → Nat) (A : Nat → Prop) (p1 : Int32) (p2 : Int32) (σ : Sig) (r : Int32) (σ1 : Sig) (hF : f12_whyRefused p1 p2 σ = some (r, σ1)) : MI l SM Γ ad A yX12_whyRefused cX12_whyRefused 3 (some .int) 3 66 [.ref (ad 0 0), .int p1, .int p2] σ r σ1 := by
  refine MI.of (by decide) (Nat.le_of_ble_eq_true rfl) ?_
  intro p e s m args below meth c ls cx hr hk hP hl
  have hl : lv_has ls 3 [(0, .ref (ad 0 0)), (1, .int p1), (2, .int p2)] := hl
  rw [f12_whyRefused] at hF
  generalize hH0 : s.heap = H0 at hP ⊢
  generalize ([] : List Loc) = locs0 at hP ⊢
  clear hH0
  have b21 : ∀ (σ : Sig) (H : Heap) (locs : List Loc) (ls : Array Slot), PS SM Γ ad A s σ H locs → lv_has ls 3 [] → f12_whyRefused_b21 σ = some (r, σ1) → W p l e (rmz 3 66) s m args below meth c H locs 0 0 (QI SM Γ ad A below args s r σ1) (F0 m 21 ls []) := by
    intro σ H locs ls hP hl hF
    rw [f12_whyRefused_b21] at hF
    refine r_iconst cx 0 dX12_whyRefused_21 (by decide) ?_
    refine r_goto cx 31 dX12_whyRefused_22 (by decide) ?_
    exact r_iret cx hP hr hk dX12_whyRefused_31 hF
  refine r_aload_n cx dX12_whyRefused_0 (lv_at hl 0 rfl) ?_
  refine r_iconst cx 0 dX12_whyRefused_1 (by decide) ?_
  refine pf12_63 cx hP dX12_whyRefused_2 hF (fun s1 H locs hP hF => ?_)
  refine r_aload_n cx dX12_whyRefused_5 (lv_at hl 0 rfl) ?_
  refine r_iload_n cx dX12_whyRefused_6 (lv_at hl 1 rfl) ?_
  obtain ⟨v2, s3, hc, hF⟩ := bns_some hF
  refine r_callVi cx hP (As := [.int p1]) (w12_noCard l Γ ad A p1 s1 v2 s3 hc) mw12_181 ⟨Nat.le_of_ble_eq_true rfl, Nat.le_of_ble_eq_true rfl⟩ (dMr (by decide)) rfl rfl rfl (Nat.le_of_ble_eq_true rfl) hl.1 ⟨Nat.zero_le _, Nat.zero_le _⟩ dX12_whyRefused_7 (fun H locs hP => ?_)
  refine r_if_ne cx 21 dX12_whyRefused_10 (by decide) hF (fun hF => ?_) (fun hF => ?_)
  · exact b21 s3 _ _ _ hP (lv_sub hl [] rfl) hF
  · refine r_aload_n cx dX12_whyRefused_13 (lv_at hl 0 rfl) ?_
    refine r_iload_n cx dX12_whyRefused_14 (lv_at hl 2 rfl) ?_
    obtain ⟨v4, s5, hc, hF⟩ := bns_some hF
    refine r_callVi cx hP (As := [.int p2]) (w12_noBed l Γ ad A p2 s3 v4 s5 hc) mw12_184 ⟨Nat.le_of_ble_eq_true rfl, Nat.le_of_ble_eq_true rfl⟩ (dMr (by decide)) rfl rfl rfl (Nat.le_of_ble_eq_true rfl) hl.1 ⟨Nat.zero_le _, Nat.zero_le _⟩ dX12_whyRefused_15 (fun H locs hP => ?_)
    refine r_if_eq cx 25 dX12_whyRefused_18 (by decide) hF (fun hF => ?_) (fun hF => ?_)
    · refine r_aload_n cx dX12_whyRefused_25 (lv_at hl 0 rfl) ?_
      refine r_iload_n cx dX12_whyRefused_26 (lv_at hl 1 rfl) ?_
      refine r_iload_n cx dX12_whyRefused_27 (lv_at hl 2 rfl) ?_
      obtain ⟨v6, hc, hF⟩ := bnd_some hF
      refine r_callVi cx hP (As := [.int p1, .int p2]) (w12_refusal l Γ ad A p1 p2 s5 v6 hc) mw12_117 ⟨Nat.le_of_ble_eq_true rfl, Nat.le_of_ble_eq_true rfl⟩ (dMr (by decide)) rfl rfl rfl (Nat.le_of_ble_eq_true rfl) hl.1 ⟨Nat.zero_le _, Nat.zero_le _⟩ dX12_whyRefused_28 (fun H locs hP => ?_)
      exact r_iret cx hP hr hk dX12_whyRefused_31 hF
    · exact b21 s5 _ _ _ hP (lv_sub hl [] rfl) hF
set_option maxHeartbeats 4000000 in
set_option maxRecDepth 100000 in
theorem w12_sign (l : Launch) (Γ : Wc) (ad : Nat → Nat → Nat) (A : Nat → Prop) (p1 : Int32) (p2 : Int32) (σ : Sig) (r : Int32) (σ1 : Sig) (hF : f12_sign p1 p2 σ = some (r, σ1)) : MI l SM Γ ad A yX12_sign cX12_sign 4 (some .int) 3 66 [.ref (ad 0 0), .int p1, .int p2] σ r σ1 := by
  refine MI.of (by decide) (Nat.le_of_ble_eq_true rfl) ?_
  intro p e s m args below meth c ls cx hr hk hP hl
  have hl : lv_has ls 4 [(0, .ref (ad 0 0)), (1, .int p1), (2, .int p2)] := hl
  rw [f12_sign] at hF
  refine r_aload_n cx dX12_sign_0 (lv_at hl 0 rfl) ?_
  refine r_iconst cx 0 dX12_sign_1 (by decide) ?_
  refine pf12_63 cx hP dX12_sign_2 hF (fun s1 H locs hP hF => ?_)
  refine r_aload_n cx dX12_sign_5 (lv_at hl 0 rfl) ?_
  refine r_iload_n cx dX12_sign_6 (lv_at hl 1 rfl) ?_
  obtain ⟨v2, s3, hc, hF⟩ := bns_some hF
  refine r_callVi cx hP (As := [.int p1]) (w12_noCard l Γ ad A p1 s1 v2 s3 hc) mw12_181 ⟨Nat.le_of_ble_eq_true rfl, Nat.le_of_ble_eq_true rfl⟩ (dMr (by decide)) rfl rfl rfl (Nat.le_of_ble_eq_true rfl) hl.1 ⟨Nat.zero_le _, Nat.zero_le _⟩ dX12_sign_7 (fun H locs hP => ?_)
  refine r_if_ne cx 21 dX12_sign_10 (by decide) hF (fun hF => ?_) (fun hF => ?_)
  · refine r_iconst cx 0 dX12_sign_21 (by decide) ?_
    exact r_iret cx hP hr hk dX12_sign_22 hF
  · refine r_aload_n cx dX12_sign_13 (lv_at hl 0 rfl) ?_
    refine r_iload_n cx dX12_sign_14 (lv_at hl 2 rfl) ?_
    obtain ⟨v4, s5, hc, hF⟩ := bns_some hF
    refine r_callVi cx hP (As := [.int p2]) (w12_noBed l Γ ad A p2 s3 v4 s5 hc) mw12_184 ⟨Nat.le_of_ble_eq_true rfl, Nat.le_of_ble_eq_true rfl⟩ (dMr (by decide)) rfl rfl rfl (Nat.le_of_ble_eq_true rfl) hl.1 ⟨Nat.zero_le _, Nat.zero_le _⟩ dX12_sign_15 (fun H locs hP => ?_)
    refine r_if_eq cx 23 dX12_sign_18 (by decide) hF (fun hF => ?_) (fun hF => ?_)
    · refine r_aload_n cx dX12_sign_23 (lv_at hl 0 rfl) ?_
      refine r_iload_n cx dX12_sign_24 (lv_at hl 1 rfl) ?_
      refine r_iload_n cx dX12_sign_25 (lv_at hl 2 rfl) ?_
      obtain ⟨v6, hc, hF⟩ := bnd_some hF
      refine r_callVi cx hP (As := [.int p1, .int p2]) (w12_refusal l Γ ad A p1 p2 s5 v6 hc) mw12_117 ⟨Nat.le_of_ble_eq_true rfl, Nat.le_of_ble_eq_true rfl⟩ (dMr (by decide)) rfl rfl rfl (Nat.le_of_ble_eq_true rfl) hl.1 ⟨Nat.zero_le _, Nat.zero_le _⟩ dX12_sign_26 (fun H locs hP => ?_)
      refine r_istore_n cx [(3, .int v6), (0, .ref (ad 0 0)), (1, .int p1), (2, .int p2)] dX12_sign_29 hl (by decide) rfl (fun ls hl => ?_)
      refine r_iload_n cx dX12_sign_30 (lv_at hl 0 rfl) ?_
      refine r_if_ne cx 38 dX12_sign_31 (by decide) hF (fun hF => ?_) (fun hF => ?_)
      · refine r_iload_n cx dX12_sign_38 (lv_at hl 0 rfl) ?_
        refine r_iconst cx 5 dX12_sign_39 (by decide) ?_
        refine r_icmp_ne cx 47 dX12_sign_40 (by decide) hF (fun hF => ?_) (fun hF => ?_)
        · refine r_iconst cx 2 dX12_sign_47 (by decide) ?_
          exact r_iret cx hP hr hk dX12_sign_48 hF
        · refine r_iconst cx 1 dX12_sign_43 (by decide) ?_
          refine r_goto cx 48 dX12_sign_44 (by decide) ?_
          exact r_iret cx hP hr hk dX12_sign_48 hF
      · refine r_iconst cx 0 dX12_sign_34 (by decide) ?_
        refine r_goto cx 48 dX12_sign_35 (by decide) ?_
        exact r_iret cx hP hr hk dX12_sign_48 hF
    · refine r_iconst cx 0 dX12_sign_21 (by decide) ?_
      exact r_iret cx hP hr hk dX12_sign_22 hF
set_option maxHeartbeats 4000000 in
set_option maxRecDepth 100000 in
theorem w12_bedsFor (l : Launch) (Γ : Wc) (ad : Nat → Nat → Nat) (A : Nat → Prop) (p1 : Int32) (σ : Sig) (r : Int32) (σ1 : Sig) (hF : f12_bedsFor p1 σ = some (r, σ1)) : MI l SM Γ ad A yX12_bedsFor cX12_bedsFor 4 (some .int) 3 66 [.ref (ad 0 0), .int p1] σ r σ1 := by
  refine MI.of (by decide) (Nat.le_of_ble_eq_true rfl) ?_
  intro p e s m args below meth c ls cx hr hk hP hl
  have hl : lv_has ls 4 [(0, .ref (ad 0 0)), (1, .int p1)] := hl
  rw [f12_bedsFor] at hF
  generalize hH0 : s.heap = H0 at hP ⊢
  generalize ([] : List Loc) = locs0 at hP ⊢
  clear hH0
  have b46 : ∀ (rc : Int32 → Int32 → Int32 → Sig → Option (Int32 × Sig)) (ih : ∀ (x1 : Int32) (x2 : Int32) (x3 : Int32) (σ : Sig) (H : Heap) (locs : List Loc) (ls : Array Slot), PS SM Γ ad A s σ H locs → lv_has ls 4 [(0, .ref (ad 0 0)), (1, .int x1), (2, .int x2), (3, .int x3)] → rc x1 x2 x3 σ = some (r, σ1) → W p l e (rmz 3 66) s m args below meth c H locs 0 0 (QI SM Γ ad A below args s r σ1) (F0 m 19 ls [])) (x1 : Int32) (x3 : Int32) (t0 : Int32) (t1 : Int32) (σ : Sig) (H : Heap) (locs : List Loc) (ls : Array Slot), PS SM Γ ad A s σ H locs → lv_has ls 4 [(0, .ref (ad 0 0)), (1, .int x1), (3, .int x3)] → f12_bedsFor_b46 rc x1 x3 t0 t1 σ = some (r, σ1) → W p l e (rmz 3 66) s m args below meth c H locs 0 0 (QI SM Γ ad A below args s r σ1) (F0 m 46 ls [.int t1, .int t0]) := by
    intro rc ih x1 x3 t0 t1 σ H locs ls hP hl hF
    rw [f12_bedsFor_b46] at hF
    refine r_ior cx dX12_bedsFor_46 hF (fun v1 hF => ?_)
    refine r_istore_n cx [(2, .int v1), (0, .ref (ad 0 0)), (1, .int x1), (3, .int x3)] dX12_bedsFor_47 hl (by decide) rfl (fun ls hl => ?_)
    refine r_iinc cx (k := 3) (w := 1) (fun v2 => [(3, .int v2), (2, .int v1), (0, .ref (ad 0 0)), (1, .int x1)]) dX12_bedsFor_48 hl rfl (by decide) (by decide) hF (fun _ => rfl) (fun v2 ls hF hl => ?_)
    refine r_goto cx 19 dX12_bedsFor_51 (by decide) ?_
    exact ih x1 v1 v2 σ _ _ _ hP (lv_sub hl [2, 3, 1, 0] rfl) hF
  have b19 : ∀ (fu : Nat) (x1 : Int32) (x2 : Int32) (x3 : Int32) (σ : Sig) (H : Heap) (locs : List Loc) (ls : Array Slot), PS SM Γ ad A s σ H locs → lv_has ls 4 [(0, .ref (ad 0 0)), (1, .int x1), (2, .int x2), (3, .int x3)] → f12_bedsFor_b19 fu x1 x2 x3 σ = some (r, σ1) → W p l e (rmz 3 66) s m args below meth c H locs 0 0 (QI SM Γ ad A below args s r σ1) (F0 m 19 ls []) := by
    intro fu
    induction fu with
    | zero => intro x1 x2 x3 σ H locs ls hP hl hF; exact nofu hF
    | succ fu ih =>
      intro x1 x2 x3 σ H locs ls hP hl hF
      rw [f12_bedsFor_b19] at hF
      refine r_iload_n cx dX12_bedsFor_19 (lv_at hl 3 rfl) ?_
      refine r_aload_n cx dX12_bedsFor_20 (lv_at hl 0 rfl) ?_
      refine gf12_9 cx hP dX12_bedsFor_21 ?_
      refine r_iconst cx 1 dX12_bedsFor_24 (by decide) ?_
      refine r_iald cx hP (dMr (by decide)) rfl dX12_bedsFor_25 hF (fun v3 hF => ?_)
      refine r_icmp_ge cx 54 dX12_bedsFor_26 (by decide) hF (fun hF => ?_) (fun hF => ?_)
      · refine r_iload_n cx dX12_bedsFor_54 (lv_at hl 2 rfl) ?_
        exact r_iret cx hP hr hk dX12_bedsFor_55 hF
      · refine r_iload_n cx dX12_bedsFor_29 (lv_at hl 2 rfl) ?_
        refine r_aload_n cx dX12_bedsFor_30 (lv_at hl 0 rfl) ?_
        refine r_iload_n cx dX12_bedsFor_31 (lv_at hl 1 rfl) ?_
        refine r_iload_n cx dX12_bedsFor_32 (lv_at hl 3 rfl) ?_
        obtain ⟨v4, hc, hF⟩ := bnd_some hF
        refine r_callVi cx hP (As := [.int x1, .int x3]) (w12_refusal l Γ ad A x1 x3 σ v4 hc) mw12_117 ⟨Nat.le_of_ble_eq_true rfl, Nat.le_of_ble_eq_true rfl⟩ (dMr (by decide)) rfl rfl rfl (Nat.le_of_ble_eq_true rfl) hl.1 ⟨Nat.zero_le _, Nat.zero_le _⟩ dX12_bedsFor_33 (fun H locs hP => ?_)
        refine r_if_ne cx 45 dX12_bedsFor_36 (by decide) hF (fun hF => ?_) (fun hF => ?_)
        · refine r_iconst cx 0 dX12_bedsFor_45 (by decide) ?_
          exact b46 (f12_bedsFor_b19 fu) ih x1 x3 x2 0 σ _ _ _ hP (lv_sub hl [0, 1, 3] rfl) hF
        · refine r_iconst cx 1 dX12_bedsFor_39 (by decide) ?_
          refine r_iload_n cx dX12_bedsFor_40 (lv_at hl 3 rfl) ?_
          refine r_ishl cx dX12_bedsFor_41 hF (fun v5 hF => ?_)
          refine r_goto cx 46 dX12_bedsFor_42 (by decide) ?_
          exact b46 (f12_bedsFor_b19 fu) ih x1 x3 x2 v5 σ _ _ _ hP (lv_sub hl [0, 1, 3] rfl) hF
  refine r_aload_n cx dX12_bedsFor_0 (lv_at hl 0 rfl) ?_
  refine r_iconst cx 0 dX12_bedsFor_1 (by decide) ?_
  refine pf12_63 cx hP dX12_bedsFor_2 hF (fun s6 H locs hP hF => ?_)
  refine r_aload_n cx dX12_bedsFor_5 (lv_at hl 0 rfl) ?_
  refine r_iload_n cx dX12_bedsFor_6 (lv_at hl 1 rfl) ?_
  obtain ⟨v7, s8, hc, hF⟩ := bns_some hF
  refine r_callVi cx hP (As := [.int p1]) (w12_noCard l Γ ad A p1 s6 v7 s8 hc) mw12_181 ⟨Nat.le_of_ble_eq_true rfl, Nat.le_of_ble_eq_true rfl⟩ (dMr (by decide)) rfl rfl rfl (Nat.le_of_ble_eq_true rfl) hl.1 ⟨Nat.zero_le _, Nat.zero_le _⟩ dX12_bedsFor_7 (fun H locs hP => ?_)
  refine r_if_eq cx 15 dX12_bedsFor_10 (by decide) hF (fun hF => ?_) (fun hF => ?_)
  · refine r_iconst cx 0 dX12_bedsFor_15 (by decide) ?_
    refine r_istore_n cx [(2, .int 0), (0, .ref (ad 0 0)), (1, .int p1)] dX12_bedsFor_16 hl (by decide) rfl (fun ls hl => ?_)
    refine r_iconst cx 0 dX12_bedsFor_17 (by decide) ?_
    refine r_istore_n cx [(3, .int 0), (2, .int 0), (0, .ref (ad 0 0)), (1, .int p1)] dX12_bedsFor_18 hl (by decide) rfl (fun ls hl => ?_)
    exact b19 FU p1 0 0 s8 _ _ _ hP (lv_sub hl [2, 3, 1, 0] rfl) hF
  · refine r_iconst cx 0 dX12_bedsFor_13 (by decide) ?_
    exact r_iret cx hP hr hk dX12_bedsFor_14 hF
set_option maxHeartbeats 4000000 in
set_option maxRecDepth 100000 in
theorem w12_quote (l : Launch) (Γ : Wc) (ad : Nat → Nat → Nat) (A : Nat → Prop) (p1 : Int32) (p2 : Int32) (p3 : Int32) (σ : Sig) (r : Int32) (σ1 : Sig) (hF : f12_quote p1 p2 p3 σ = some (r, σ1)) : MI l SM Γ ad A yX12_quote cX12_quote 4 (some .int) 2 47 [.ref (ad 0 0), .int p1, .int p2, .int p3] σ r σ1 := by
  refine MI.of (by decide) (Nat.le_of_ble_eq_true rfl) ?_
  intro p e s m args below meth c ls cx hr hk hP hl
  have hl : lv_has ls 4 [(0, .ref (ad 0 0)), (1, .int p1), (2, .int p2), (3, .int p3)] := hl
  rw [f12_quote] at hF
  refine r_aload_n cx dX12_quote_0 (lv_at hl 0 rfl) ?_
  refine r_iconst cx 0 dX12_quote_1 (by decide) ?_
  refine pf12_63 cx hP dX12_quote_2 hF (fun s1 H locs hP hF => ?_)
  refine r_aload_n cx dX12_quote_5 (lv_at hl 0 rfl) ?_
  refine r_iload_n cx dX12_quote_6 (lv_at hl 1 rfl) ?_
  refine r_iload_n cx dX12_quote_7 (lv_at hl 2 rfl) ?_
  refine r_iload_n cx dX12_quote_8 (lv_at hl 3 rfl) ?_
  obtain ⟨v2, s3, hc, hF⟩ := bns_some hF
  refine r_callVi cx hP (As := [.int p1, .int p2, .int p3]) (w12_badPass l Γ ad A p1 p2 p3 s1 v2 s3 hc) mw12_156 ⟨Nat.le_of_ble_eq_true rfl, Nat.le_of_ble_eq_true rfl⟩ (dMr (by decide)) rfl rfl rfl (Nat.le_of_ble_eq_true rfl) hl.1 ⟨Nat.zero_le _, Nat.zero_le _⟩ dX12_quote_9 (fun H locs hP => ?_)
  refine r_if_eq cx 19 dX12_quote_12 (by decide) hF (fun hF => ?_) (fun hF => ?_)
  · refine r_aload_n cx dX12_quote_19 (lv_at hl 0 rfl) ?_
    refine r_iload_n cx dX12_quote_20 (lv_at hl 1 rfl) ?_
    refine r_iload_n cx dX12_quote_21 (lv_at hl 2 rfl) ?_
    refine r_iload_n cx dX12_quote_22 (lv_at hl 3 rfl) ?_
    obtain ⟨v4, hc, hF⟩ := bnd_some hF
    refine r_callVi cx hP (As := [.int p1, .int p2, .int p3]) (w12_priceFor l Γ ad A p1 p2 p3 s3 v4 hc) mw12_101 ⟨Nat.le_of_ble_eq_true rfl, Nat.le_of_ble_eq_true rfl⟩ (dMr (by decide)) rfl rfl rfl (Nat.le_of_ble_eq_true rfl) hl.1 ⟨Nat.zero_le _, Nat.zero_le _⟩ dX12_quote_23 (fun H locs hP => ?_)
    exact r_iret cx hP hr hk dX12_quote_26 hF
  · refine r_iconst cx 0 dX12_quote_15 (by decide) ?_
    refine r_goto cx 26 dX12_quote_16 (by decide) ?_
    exact r_iret cx hP hr hk dX12_quote_26 hF
set_option maxHeartbeats 4000000 in
set_option maxRecDepth 100000 in
theorem w12_fineFor (l : Launch) (Γ : Wc) (ad : Nat → Nat → Nat) (A : Nat → Prop) (p1 : Int32) (p2 : Int32) (σ : Sig) (r : Int32) (σ1 : Sig) (hF : f12_fineFor p1 p2 σ = some (r, σ1)) : MI l SM Γ ad A yX12_fineFor cX12_fineFor 3 (some .int) 3 65 [.ref (ad 0 0), .int p1, .int p2] σ r σ1 := by
  refine MI.of (by decide) (Nat.le_of_ble_eq_true rfl) ?_
  intro p e s m args below meth c ls cx hr hk hP hl
  have hl : lv_has ls 3 [(0, .ref (ad 0 0)), (1, .int p1), (2, .int p2)] := hl
  rw [f12_fineFor] at hF
  generalize hH0 : s.heap = H0 at hP ⊢
  generalize ([] : List Loc) = locs0 at hP ⊢
  clear hH0
  have b25 : ∀ (σ : Sig) (H : Heap) (locs : List Loc) (ls : Array Slot), PS SM Γ ad A s σ H locs → lv_has ls 3 [] → f12_fineFor_b25 σ = some (r, σ1) → W p l e (rmz 3 65) s m args below meth c H locs 0 0 (QI SM Γ ad A below args s r σ1) (F0 m 25 ls []) := by
    intro σ H locs ls hP hl hF
    rw [f12_fineFor_b25] at hF
    refine r_iconst cx 0 dX12_fineFor_25 (by decide) ?_
    refine r_goto cx 35 dX12_fineFor_26 (by decide) ?_
    exact r_iret cx hP hr hk dX12_fineFor_35 hF
  refine r_aload_n cx dX12_fineFor_0 (lv_at hl 0 rfl) ?_
  refine r_iconst cx 0 dX12_fineFor_1 (by decide) ?_
  refine pf12_63 cx hP dX12_fineFor_2 hF (fun s1 H locs hP hF => ?_)
  refine r_aload_n cx dX12_fineFor_5 (lv_at hl 0 rfl) ?_
  refine r_iload_n cx dX12_fineFor_6 (lv_at hl 1 rfl) ?_
  obtain ⟨v2, s3, hc, hF⟩ := bns_some hF
  refine r_callVi cx hP (As := [.int p1]) (w12_noBed l Γ ad A p1 s1 v2 s3 hc) mw12_184 ⟨Nat.le_of_ble_eq_true rfl, Nat.le_of_ble_eq_true rfl⟩ (dMr (by decide)) rfl rfl rfl (Nat.le_of_ble_eq_true rfl) hl.1 ⟨Nat.zero_le _, Nat.zero_le _⟩ dX12_fineFor_7 (fun H locs hP => ?_)
  refine r_if_ne cx 25 dX12_fineFor_10 (by decide) hF (fun hF => ?_) (fun hF => ?_)
  · exact b25 s3 _ _ _ hP (lv_sub hl [] rfl) hF
  · refine r_aload_n cx dX12_fineFor_13 (lv_at hl 0 rfl) ?_
    refine r_iload_n cx dX12_fineFor_14 (lv_at hl 2 rfl) ?_
    refine r_iconst cx 1 dX12_fineFor_15 (by decide) ?_
    refine r_bipush cx 9 dX12_fineFor_16 (by decide) ?_
    refine r_iconst cx 2 dX12_fineFor_18 (by decide) ?_
    obtain ⟨v4, s5, hc, hF⟩ := bns_some hF
    refine r_callVi cx hP (As := [.int p2, .int 1, .int 9, .int 2]) (w12_outside l Γ ad A p2 1 9 2 s3 v4 s5 hc) mw12_73 ⟨Nat.le_of_ble_eq_true rfl, Nat.le_of_ble_eq_true rfl⟩ (dMr (by decide)) rfl rfl rfl (Nat.le_of_ble_eq_true rfl) hl.1 ⟨Nat.zero_le _, Nat.zero_le _⟩ dX12_fineFor_19 (fun H locs hP => ?_)
    refine r_if_eq cx 29 dX12_fineFor_22 (by decide) hF (fun hF => ?_) (fun hF => ?_)
    · refine r_aload_n cx dX12_fineFor_29 (lv_at hl 0 rfl) ?_
      refine r_iload_n cx dX12_fineFor_30 (lv_at hl 1 rfl) ?_
      refine r_iload_n cx dX12_fineFor_31 (lv_at hl 2 rfl) ?_
      obtain ⟨v6, hc, hF⟩ := bnd_some hF
      refine r_callVi cx hP (As := [.int p1, .int p2]) (w12_fine l Γ ad A p1 p2 s5 v6 hc) mw12_120 ⟨Nat.le_of_ble_eq_true rfl, Nat.le_of_ble_eq_true rfl⟩ (dMr (by decide)) rfl rfl rfl (Nat.le_of_ble_eq_true rfl) hl.1 ⟨Nat.zero_le _, Nat.zero_le _⟩ dX12_fineFor_32 (fun H locs hP => ?_)
      exact r_iret cx hP hr hk dX12_fineFor_35 hF
    · exact b25 s5 _ _ _ hP (lv_sub hl [] rfl) hF
set_option maxHeartbeats 4000000 in
set_option maxRecDepth 100000 in
theorem w12_takings (l : Launch) (Γ : Wc) (ad : Nat → Nat → Nat) (A : Nat → Prop)  (σ : Sig) (r : Int32) (σ1 : Sig) (hF : f12_takings  σ = some (r, σ1)) : MI l SM Γ ad A yX12_takings cX12_takings 1 (some .int) 1 21 [.ref (ad 0 0)] σ r σ1 := by
  refine MI.of (by decide) (Nat.le_of_ble_eq_true rfl) ?_
  intro p e s m args below meth c ls cx hr hk hP hl
  have hl : lv_has ls 1 [(0, .ref (ad 0 0))] := hl
  rw [f12_takings] at hF
  refine r_aload_n cx dX12_takings_0 (lv_at hl 0 rfl) ?_
  refine r_bipush cx 9 dX12_takings_1 (by decide) ?_
  obtain ⟨v1, s2, hc, hF⟩ := bns_some hF
  refine r_callVi cx hP (As := [.int 9]) (w12_told l Γ ad A 9 σ v1 s2 hc) mw12_308 ⟨Nat.le_of_ble_eq_true rfl, Nat.le_of_ble_eq_true rfl⟩ (dMr (by decide)) rfl rfl rfl (Nat.le_of_ble_eq_true rfl) hl.1 ⟨Nat.zero_le _, Nat.zero_le _⟩ dX12_takings_3 (fun H locs hP => ?_)
  exact r_iret cx hP hr hk dX12_takings_6 hF
set_option maxHeartbeats 4000000 in
set_option maxRecDepth 100000 in
theorem w12_refunds (l : Launch) (Γ : Wc) (ad : Nat → Nat → Nat) (A : Nat → Prop)  (σ : Sig) (r : Int32) (σ1 : Sig) (hF : f12_refunds  σ = some (r, σ1)) : MI l SM Γ ad A yX12_refunds cX12_refunds 1 (some .int) 1 21 [.ref (ad 0 0)] σ r σ1 := by
  refine MI.of (by decide) (Nat.le_of_ble_eq_true rfl) ?_
  intro p e s m args below meth c ls cx hr hk hP hl
  have hl : lv_has ls 1 [(0, .ref (ad 0 0))] := hl
  rw [f12_refunds] at hF
  refine r_aload_n cx dX12_refunds_0 (lv_at hl 0 rfl) ?_
  refine r_bipush cx 10 dX12_refunds_1 (by decide) ?_
  obtain ⟨v1, s2, hc, hF⟩ := bns_some hF
  refine r_callVi cx hP (As := [.int 10]) (w12_told l Γ ad A 10 σ v1 s2 hc) mw12_308 ⟨Nat.le_of_ble_eq_true rfl, Nat.le_of_ble_eq_true rfl⟩ (dMr (by decide)) rfl rfl rfl (Nat.le_of_ble_eq_true rfl) hl.1 ⟨Nat.zero_le _, Nat.zero_le _⟩ dX12_refunds_3 (fun H locs hP => ?_)
  exact r_iret cx hP hr hk dX12_refunds_6 hF
set_option maxHeartbeats 4000000 in
set_option maxRecDepth 100000 in
theorem w12_finesPaid (l : Launch) (Γ : Wc) (ad : Nat → Nat → Nat) (A : Nat → Prop)  (σ : Sig) (r : Int32) (σ1 : Sig) (hF : f12_finesPaid  σ = some (r, σ1)) : MI l SM Γ ad A yX12_finesPaid cX12_finesPaid 1 (some .int) 1 21 [.ref (ad 0 0)] σ r σ1 := by
  refine MI.of (by decide) (Nat.le_of_ble_eq_true rfl) ?_
  intro p e s m args below meth c ls cx hr hk hP hl
  have hl : lv_has ls 1 [(0, .ref (ad 0 0))] := hl
  rw [f12_finesPaid] at hF
  refine r_aload_n cx dX12_finesPaid_0 (lv_at hl 0 rfl) ?_
  refine r_bipush cx 11 dX12_finesPaid_1 (by decide) ?_
  obtain ⟨v1, s2, hc, hF⟩ := bns_some hF
  refine r_callVi cx hP (As := [.int 11]) (w12_told l Γ ad A 11 σ v1 s2 hc) mw12_308 ⟨Nat.le_of_ble_eq_true rfl, Nat.le_of_ble_eq_true rfl⟩ (dMr (by decide)) rfl rfl rfl (Nat.le_of_ble_eq_true rfl) hl.1 ⟨Nat.zero_le _, Nat.zero_le _⟩ dX12_finesPaid_3 (fun H locs hP => ?_)
  exact r_iret cx hP hr hk dX12_finesPaid_6 hF
set_option maxHeartbeats 4000000 in
set_option maxRecDepth 100000 in
theorem w12_plucked (l : Launch) (Γ : Wc) (ad : Nat → Nat → Nat) (A : Nat → Prop)  (σ : Sig) (r : Int32) (σ1 : Sig) (hF : f12_plucked  σ = some (r, σ1)) : MI l SM Γ ad A yX12_plucked cX12_plucked 1 (some .int) 1 21 [.ref (ad 0 0)] σ r σ1 := by
  refine MI.of (by decide) (Nat.le_of_ble_eq_true rfl) ?_
  intro p e s m args below meth c ls cx hr hk hP hl
  have hl : lv_has ls 1 [(0, .ref (ad 0 0))] := hl
  rw [f12_plucked] at hF
  refine r_aload_n cx dX12_plucked_0 (lv_at hl 0 rfl) ?_
  refine r_bipush cx 12 dX12_plucked_1 (by decide) ?_
  obtain ⟨v1, s2, hc, hF⟩ := bns_some hF
  refine r_callVi cx hP (As := [.int 12]) (w12_told l Γ ad A 12 σ v1 s2 hc) mw12_308 ⟨Nat.le_of_ble_eq_true rfl, Nat.le_of_ble_eq_true rfl⟩ (dMr (by decide)) rfl rfl rfl (Nat.le_of_ble_eq_true rfl) hl.1 ⟨Nat.zero_le _, Nat.zero_le _⟩ dX12_plucked_3 (fun H locs hP => ?_)
  exact r_iret cx hP hr hk dX12_plucked_6 hF
set_option maxHeartbeats 4000000 in
set_option maxRecDepth 100000 in
theorem w12_alarms (l : Launch) (Γ : Wc) (ad : Nat → Nat → Nat) (A : Nat → Prop)  (σ : Sig) (r : Int32) (σ1 : Sig) (hF : f12_alarms  σ = some (r, σ1)) : MI l SM Γ ad A yX12_alarms cX12_alarms 1 (some .int) 1 21 [.ref (ad 0 0)] σ r σ1 := by
  refine MI.of (by decide) (Nat.le_of_ble_eq_true rfl) ?_
  intro p e s m args below meth c ls cx hr hk hP hl
  have hl : lv_has ls 1 [(0, .ref (ad 0 0))] := hl
  rw [f12_alarms] at hF
  refine r_aload_n cx dX12_alarms_0 (lv_at hl 0 rfl) ?_
  refine r_bipush cx 13 dX12_alarms_1 (by decide) ?_
  obtain ⟨v1, s2, hc, hF⟩ := bns_some hF
  refine r_callVi cx hP (As := [.int 13]) (w12_told l Γ ad A 13 σ v1 s2 hc) mw12_308 ⟨Nat.le_of_ble_eq_true rfl, Nat.le_of_ble_eq_true rfl⟩ (dMr (by decide)) rfl rfl rfl (Nat.le_of_ble_eq_true rfl) hl.1 ⟨Nat.zero_le _, Nat.zero_le _⟩ dX12_alarms_3 (fun H locs hP => ?_)
  exact r_iret cx hP hr hk dX12_alarms_6 hF
set_option maxHeartbeats 4000000 in
set_option maxRecDepth 100000 in
theorem w12_allVisits (l : Launch) (Γ : Wc) (ad : Nat → Nat → Nat) (A : Nat → Prop)  (σ : Sig) (r : Int32) (hF : f12_allVisits  σ = some r) : MI l SM Γ ad A yX12_allVisits cX12_allVisits 3 (some .int) 1 22 [.ref (ad 0 0)] σ r σ := by
  refine MI.of (by decide) (Nat.le_of_ble_eq_true rfl) ?_
  intro p e s m args below meth c ls cx hr hk hP hl
  have hl : lv_has ls 3 [(0, .ref (ad 0 0))] := hl
  rw [f12_allVisits] at hF
  generalize hH0 : s.heap = H0 at hP ⊢
  generalize ([] : List Loc) = locs0 at hP ⊢
  clear hH0
  have b4 : ∀ (fu : Nat) (x1 : Int32) (x2 : Int32) (H : Heap) (locs : List Loc) (ls : Array Slot), PS SM Γ ad A s σ H locs → lv_has ls 3 [(0, .ref (ad 0 0)), (1, .int x1), (2, .int x2)] → f12_allVisits_b4 fu x1 x2 σ = some r → W p l e (rmz 1 22) s m args below meth c H locs 0 0 (QI SM Γ ad A below args s r σ) (F0 m 4 ls []) := by
    intro fu
    induction fu with
    | zero => intro x1 x2 H locs ls hP hl hF; exact nofu hF
    | succ fu ih =>
      intro x1 x2 H locs ls hP hl hF
      rw [f12_allVisits_b4] at hF
      refine r_iload_n cx dX12_allVisits_4 (lv_at hl 2 rfl) ?_
      refine r_aload_n cx dX12_allVisits_5 (lv_at hl 0 rfl) ?_
      refine gf12_9 cx hP dX12_allVisits_6 ?_
      refine r_iconst cx 1 dX12_allVisits_9 (by decide) ?_
      refine r_iald cx hP (dMr (by decide)) rfl dX12_allVisits_10 hF (fun v1 hF => ?_)
      refine r_icmp_ge cx 30 dX12_allVisits_11 (by decide) hF (fun hF => ?_) (fun hF => ?_)
      · refine r_iload_n cx dX12_allVisits_30 (lv_at hl 1 rfl) ?_
        exact r_iret cx hP hr hk dX12_allVisits_31 (prF hF)
      · refine r_iload_n cx dX12_allVisits_14 (lv_at hl 1 rfl) ?_
        refine r_aload_n cx dX12_allVisits_15 (lv_at hl 0 rfl) ?_
        refine r_iload_n cx dX12_allVisits_16 (lv_at hl 2 rfl) ?_
        refine r_bipush cx 6 dX12_allVisits_17 (by decide) ?_
        obtain ⟨v2, hc, hF⟩ := bnd_some hF
        refine r_callVi cx hP (As := [.int x2, .int 6]) (w12_bed l Γ ad A x2 6 σ v2 hc) mw12_85 ⟨Nat.le_of_ble_eq_true rfl, Nat.le_of_ble_eq_true rfl⟩ (dMr (by decide)) rfl rfl rfl (Nat.le_of_ble_eq_true rfl) hl.1 ⟨Nat.zero_le _, Nat.zero_le _⟩ dX12_allVisits_19 (fun H locs hP => ?_)
        refine r_iadd cx dX12_allVisits_22 hF (fun v3 hF => ?_)
        refine r_istore_n cx [(1, .int v3), (0, .ref (ad 0 0)), (2, .int x2)] dX12_allVisits_23 hl (by decide) rfl (fun ls hl => ?_)
        refine r_iinc cx (k := 2) (w := 1) (fun v4 => [(2, .int v4), (1, .int v3), (0, .ref (ad 0 0))]) dX12_allVisits_24 hl rfl (by decide) (by decide) hF (fun _ => rfl) (fun v4 ls hF hl => ?_)
        refine r_goto cx 4 dX12_allVisits_27 (by decide) ?_
        exact ih v3 v4 _ _ _ hP (lv_sub hl [2, 1, 0] rfl) hF
  refine r_iconst cx 0 dX12_allVisits_0 (by decide) ?_
  refine r_istore_n cx [(1, .int 0), (0, .ref (ad 0 0))] dX12_allVisits_1 hl (by decide) rfl (fun ls hl => ?_)
  refine r_iconst cx 0 dX12_allVisits_2 (by decide) ?_
  refine r_istore_n cx [(2, .int 0), (1, .int 0), (0, .ref (ad 0 0))] dX12_allVisits_3 hl (by decide) rfl (fun ls hl => ?_)
  exact b4 FU 0 0 _ _ _ hP (lv_sub hl [2, 1, 0] rfl) hF
set_option maxHeartbeats 4000000 in
set_option maxRecDepth 100000 in
theorem w12_visitsPerDay (l : Launch) (Γ : Wc) (ad : Nat → Nat → Nat) (A : Nat → Prop)  (σ : Sig) (r : UInt64) (σ1 : Sig) (hF : f12_visitsPerDay  σ = some (r, σ1)) : MD l SM Γ ad A yX12_visitsPerDay cX12_visitsPerDay 3 2 44 [.ref (ad 0 0)] σ r σ1 := by
  refine MD.of (by decide) (Nat.le_of_ble_eq_true rfl) ?_
  intro p e s m args below meth c ls cx hr hk hP hl
  have hl : lv_has ls 3 [(0, .ref (ad 0 0))] := hl
  rw [f12_visitsPerDay] at hF
  generalize hH0 : s.heap = H0 at hP ⊢
  generalize ([] : List Loc) = locs0 at hP ⊢
  clear hH0
  have b9 : ∀ (fu : Nat) (x1 : Int32) (x2 : Int32) (σ : Sig) (H : Heap) (locs : List Loc) (ls : Array Slot), PS SM Γ ad A s σ H locs → lv_has ls 3 [(0, .ref (ad 0 0)), (1, .int x1), (2, .int x2)] → f12_visitsPerDay_b9 fu x1 x2 σ = some (r, σ1) → W p l e (rmz 2 44) s m args below meth c H locs 0 0 (QD SM Γ ad A below args s r σ1) (F0 m 9 ls []) := by
    intro fu
    induction fu with
    | zero => intro x1 x2 σ H locs ls hP hl hF; exact nofu hF
    | succ fu ih =>
      intro x1 x2 σ H locs ls hP hl hF
      rw [f12_visitsPerDay_b9] at hF
      refine r_iload_n cx dX12_visitsPerDay_9 (lv_at hl 2 rfl) ?_
      refine r_aload_n cx dX12_visitsPerDay_10 (lv_at hl 0 rfl) ?_
      refine gf12_9 cx hP dX12_visitsPerDay_11 ?_
      refine r_iconst cx 2 dX12_visitsPerDay_14 (by decide) ?_
      refine r_iald cx hP (dMr (by decide)) rfl dX12_visitsPerDay_15 hF (fun v1 hF => ?_)
      refine r_icmp_ge cx 38 dX12_visitsPerDay_16 (by decide) hF (fun hF => ?_) (fun hF => ?_)
      · refine r_aload_n cx dX12_visitsPerDay_38 (lv_at hl 0 rfl) ?_
        obtain ⟨v2, hc, hF⟩ := bnd_some hF
        refine r_callVi cx hP (As := []) (w12_allVisits l Γ ad A σ v2 hc) mw12_320 ⟨Nat.le_of_ble_eq_true rfl, Nat.le_of_ble_eq_true rfl⟩ (dMr (by decide)) rfl rfl rfl (Nat.le_of_ble_eq_true rfl) hl.1 ⟨Nat.zero_le _, Nat.zero_le _⟩ dX12_visitsPerDay_39 (fun H locs hP => ?_)
        refine r_if_ne cx 49 dX12_visitsPerDay_42 (by decide) hF (fun hF => ?_) (fun hF => ?_)
        · refine r_aload_n cx dX12_visitsPerDay_49 (lv_at hl 0 rfl) ?_
          obtain ⟨v3, hc, hF⟩ := bnd_some hF
          refine r_callVi cx hP (As := []) (w12_allVisits l Γ ad A σ v3 hc) mw12_320 ⟨Nat.le_of_ble_eq_true rfl, Nat.le_of_ble_eq_true rfl⟩ (dMr (by decide)) rfl rfl rfl (Nat.le_of_ble_eq_true rfl) hl.1 ⟨Nat.zero_le _, Nat.zero_le _⟩ dX12_visitsPerDay_50 (fun H locs hP => ?_)
          refine r_i2d cx dX12_visitsPerDay_53 hF (fun v4 hF => ?_)
          refine r_iload_n cx dX12_visitsPerDay_54 (lv_at hl 1 rfl) ?_
          refine r_i2d cx dX12_visitsPerDay_55 hF (fun v5 hF => ?_)
          refine r_ddiv cx dX12_visitsPerDay_56 hF (fun v6 hF => ?_)
          exact r_dret cx hP hr hk dX12_visitsPerDay_57 hF
        · refine r_dconst0 cx dX12_visitsPerDay_45 ?_
          refine r_goto cx 57 dX12_visitsPerDay_46 (by decide) ?_
          exact r_dret cx hP hr hk dX12_visitsPerDay_57 hF
      · refine r_iload_n cx dX12_visitsPerDay_19 (lv_at hl 1 rfl) ?_
        refine r_aload_n cx dX12_visitsPerDay_20 (lv_at hl 0 rfl) ?_
        refine r_iload_n cx dX12_visitsPerDay_21 (lv_at hl 2 rfl) ?_
        refine r_bipush cx 7 dX12_visitsPerDay_22 (by decide) ?_
        obtain ⟨v7, hc, hF⟩ := bnd_some hF
        refine r_callVi cx hP (As := [.int x2, .int 7]) (w12_of l Γ ad A x2 7 σ v7 hc) mw12_88 ⟨Nat.le_of_ble_eq_true rfl, Nat.le_of_ble_eq_true rfl⟩ (dMr (by decide)) rfl rfl rfl (Nat.le_of_ble_eq_true rfl) hl.1 ⟨Nat.zero_le _, Nat.zero_le _⟩ dX12_visitsPerDay_24 (fun H locs hP => ?_)
        obtain ⟨v8, hc, hF⟩ := bnd_some hF
        refine r_callSi cx hP (As := [.int v7]) (w12_ones l Γ ad A v7 σ v8 hc) mw12_317 ⟨Nat.le_of_ble_eq_true rfl, Nat.le_of_ble_eq_true rfl⟩ rfl (Nat.le_of_ble_eq_true rfl) hl.1 ⟨Nat.zero_le _, Nat.zero_le _⟩ dX12_visitsPerDay_27 (fun H locs hP => ?_)
        refine r_iadd cx dX12_visitsPerDay_30 hF (fun v9 hF => ?_)
        refine r_istore_n cx [(1, .int v9), (0, .ref (ad 0 0)), (2, .int x2)] dX12_visitsPerDay_31 hl (by decide) rfl (fun ls hl => ?_)
        refine r_iinc cx (k := 2) (w := 1) (fun v10 => [(2, .int v10), (1, .int v9), (0, .ref (ad 0 0))]) dX12_visitsPerDay_32 hl rfl (by decide) (by decide) hF (fun _ => rfl) (fun v10 ls hF hl => ?_)
        refine r_goto cx 9 dX12_visitsPerDay_35 (by decide) ?_
        exact ih v9 v10 σ _ _ _ hP (lv_sub hl [2, 1, 0] rfl) hF
  refine r_aload_n cx dX12_visitsPerDay_0 (lv_at hl 0 rfl) ?_
  refine r_iconst cx 0 dX12_visitsPerDay_1 (by decide) ?_
  refine pf12_63 cx hP dX12_visitsPerDay_2 hF (fun s11 H locs hP hF => ?_)
  refine r_iconst cx 0 dX12_visitsPerDay_5 (by decide) ?_
  refine r_istore_n cx [(1, .int 0), (0, .ref (ad 0 0))] dX12_visitsPerDay_6 hl (by decide) rfl (fun ls hl => ?_)
  refine r_iconst cx 0 dX12_visitsPerDay_7 (by decide) ?_
  refine r_istore_n cx [(2, .int 0), (1, .int 0), (0, .ref (ad 0 0))] dX12_visitsPerDay_8 hl (by decide) rfl (fun ls hl => ?_)
  exact b9 FU 0 0 s11 _ _ _ hP (lv_sub hl [2, 1, 0] rfl) hF
set_option maxHeartbeats 4000000 in
set_option maxRecDepth 100000 in
theorem w12_blockedShare (l : Launch) (Γ : Wc) (ad : Nat → Nat → Nat) (A : Nat → Prop)  (σ : Sig) (r : UInt32) (σ1 : Sig) (hF : f12_blockedShare  σ = some (r, σ1)) : MF l SM Γ ad A yX12_blockedShare cX12_blockedShare 3 1 21 [.ref (ad 0 0)] σ r σ1 := by
  refine MF.of (by decide) (Nat.le_of_ble_eq_true rfl) ?_
  intro p e s m args below meth c ls cx hr hk hP hl
  have hl : lv_has ls 3 [(0, .ref (ad 0 0))] := hl
  rw [f12_blockedShare] at hF
  generalize hH0 : s.heap = H0 at hP ⊢
  generalize ([] : List Loc) = locs0 at hP ⊢
  clear hH0
  have b33 : ∀ (rc : Int32 → Int32 → Sig → Option (UInt32 × Sig)) (ih : ∀ (x1 : Int32) (x2 : Int32) (σ : Sig) (H : Heap) (locs : List Loc) (ls : Array Slot), PS SM Γ ad A s σ H locs → lv_has ls 3 [(0, .ref (ad 0 0)), (1, .int x1), (2, .int x2)] → rc x1 x2 σ = some (r, σ1) → W p l e (rmz 1 21) s m args below meth c H locs 0 0 (QF SM Γ ad A below args s r σ1) (F0 m 9 ls [])) (x2 : Int32) (t0 : Int32) (t1 : Int32) (σ : Sig) (H : Heap) (locs : List Loc) (ls : Array Slot), PS SM Γ ad A s σ H locs → lv_has ls 3 [(0, .ref (ad 0 0)), (2, .int x2)] → f12_blockedShare_b33 rc x2 t0 t1 σ = some (r, σ1) → W p l e (rmz 1 21) s m args below meth c H locs 0 0 (QF SM Γ ad A below args s r σ1) (F0 m 33 ls [.int t1, .int t0]) := by
    intro rc ih x2 t0 t1 σ H locs ls hP hl hF
    rw [f12_blockedShare_b33] at hF
    refine r_iadd cx dX12_blockedShare_33 hF (fun v1 hF => ?_)
    refine r_istore_n cx [(1, .int v1), (0, .ref (ad 0 0)), (2, .int x2)] dX12_blockedShare_34 hl (by decide) rfl (fun ls hl => ?_)
    refine r_iinc cx (k := 2) (w := 1) (fun v2 => [(2, .int v2), (1, .int v1), (0, .ref (ad 0 0))]) dX12_blockedShare_35 hl rfl (by decide) (by decide) hF (fun _ => rfl) (fun v2 ls hF hl => ?_)
    refine r_goto cx 9 dX12_blockedShare_38 (by decide) ?_
    exact ih v1 v2 σ _ _ _ hP (lv_sub hl [2, 1, 0] rfl) hF
  have b9 : ∀ (fu : Nat) (x1 : Int32) (x2 : Int32) (σ : Sig) (H : Heap) (locs : List Loc) (ls : Array Slot), PS SM Γ ad A s σ H locs → lv_has ls 3 [(0, .ref (ad 0 0)), (1, .int x1), (2, .int x2)] → f12_blockedShare_b9 fu x1 x2 σ = some (r, σ1) → W p l e (rmz 1 21) s m args below meth c H locs 0 0 (QF SM Γ ad A below args s r σ1) (F0 m 9 ls []) := by
    intro fu
    induction fu with
    | zero => intro x1 x2 σ H locs ls hP hl hF; exact nofu hF
    | succ fu ih =>
      intro x1 x2 σ H locs ls hP hl hF
      rw [f12_blockedShare_b9] at hF
      refine r_iload_n cx dX12_blockedShare_9 (lv_at hl 2 rfl) ?_
      refine r_aload_n cx dX12_blockedShare_10 (lv_at hl 0 rfl) ?_
      refine gf12_9 cx hP dX12_blockedShare_11 ?_
      refine r_iconst cx 3 dX12_blockedShare_14 (by decide) ?_
      refine r_iald cx hP (dMr (by decide)) rfl dX12_blockedShare_15 hF (fun v3 hF => ?_)
      refine r_icmp_ge cx 41 dX12_blockedShare_16 (by decide) hF (fun hF => ?_) (fun hF => ?_)
      · refine r_aload_n cx dX12_blockedShare_41 (lv_at hl 0 rfl) ?_
        refine gf12_9 cx hP dX12_blockedShare_42 ?_
        refine r_iconst cx 3 dX12_blockedShare_45 (by decide) ?_
        refine r_iald cx hP (dMr (by decide)) rfl dX12_blockedShare_46 hF (fun v4 hF => ?_)
        refine r_if_ne cx 54 dX12_blockedShare_47 (by decide) hF (fun hF => ?_) (fun hF => ?_)
        · refine r_iload_n cx dX12_blockedShare_54 (lv_at hl 1 rfl) ?_
          refine r_i2f cx dX12_blockedShare_55 hF (fun v5 hF => ?_)
          refine r_aload_n cx dX12_blockedShare_56 (lv_at hl 0 rfl) ?_
          refine gf12_9 cx hP dX12_blockedShare_57 ?_
          refine r_iconst cx 3 dX12_blockedShare_60 (by decide) ?_
          refine r_iald cx hP (dMr (by decide)) rfl dX12_blockedShare_61 hF (fun v6 hF => ?_)
          refine r_i2f cx dX12_blockedShare_62 hF (fun v7 hF => ?_)
          refine r_fdiv cx dX12_blockedShare_63 hF (fun v8 hF => ?_)
          exact r_fret cx hP hr hk dX12_blockedShare_64 hF
        · refine r_fconst0 cx dX12_blockedShare_50 ?_
          refine r_goto cx 64 dX12_blockedShare_51 (by decide) ?_
          exact r_fret cx hP hr hk dX12_blockedShare_64 hF
      · refine r_iload_n cx dX12_blockedShare_19 (lv_at hl 1 rfl) ?_
        refine r_aload_n cx dX12_blockedShare_20 (lv_at hl 0 rfl) ?_
        refine r_iload_n cx dX12_blockedShare_21 (lv_at hl 2 rfl) ?_
        obtain ⟨v9, hc, hF⟩ := bnd_some hF
        refine r_callVi cx hP (As := [.int x2]) (w12_blocked l Γ ad A x2 σ v9 hc) mw12_111 ⟨Nat.le_of_ble_eq_true rfl, Nat.le_of_ble_eq_true rfl⟩ (dMr (by decide)) rfl rfl rfl (Nat.le_of_ble_eq_true rfl) hl.1 ⟨Nat.zero_le _, Nat.zero_le _⟩ dX12_blockedShare_22 (fun H locs hP => ?_)
        refine r_if_eq cx 32 dX12_blockedShare_25 (by decide) hF (fun hF => ?_) (fun hF => ?_)
        · refine r_iconst cx 0 dX12_blockedShare_32 (by decide) ?_
          exact b33 (f12_blockedShare_b9 fu) ih x2 x1 0 σ _ _ _ hP (lv_sub hl [0, 2] rfl) hF
        · refine r_iconst cx 1 dX12_blockedShare_28 (by decide) ?_
          refine r_goto cx 33 dX12_blockedShare_29 (by decide) ?_
          exact b33 (f12_blockedShare_b9 fu) ih x2 x1 1 σ _ _ _ hP (lv_sub hl [0, 2] rfl) hF
  refine r_aload_n cx dX12_blockedShare_0 (lv_at hl 0 rfl) ?_
  refine r_iconst cx 0 dX12_blockedShare_1 (by decide) ?_
  refine pf12_63 cx hP dX12_blockedShare_2 hF (fun s10 H locs hP hF => ?_)
  refine r_iconst cx 0 dX12_blockedShare_5 (by decide) ?_
  refine r_istore_n cx [(1, .int 0), (0, .ref (ad 0 0))] dX12_blockedShare_6 hl (by decide) rfl (fun ls hl => ?_)
  refine r_iconst cx 0 dX12_blockedShare_7 (by decide) ?_
  refine r_istore_n cx [(2, .int 0), (1, .int 0), (0, .ref (ad 0 0))] dX12_blockedShare_8 hl (by decide) rfl (fun ls hl => ?_)
  exact b9 FU 0 0 s10 _ _ _ hP (lv_sub hl [2, 1, 0] rfl) hF
set_option maxHeartbeats 4000000 in
set_option maxRecDepth 100000 in
theorem w12_bit (l : Launch) (Γ : Wc) (ad : Nat → Nat → Nat) (A : Nat → Prop) (p0 : Int32) (σ : Sig) (r : Int32) (hF : f12_bit p0 = some r) : MI l SM Γ ad A yX12_bit cX12_bit 1 (some .int) 0 0 [.int p0] σ r σ := by
  refine MI.of (by decide) (Nat.le_of_ble_eq_true rfl) ?_
  intro p e s m args below meth c ls cx hr hk hP hl
  have hl : lv_has ls 1 [(0, .int p0)] := hl
  rw [f12_bit] at hF
  refine r_iload_n cx dX12_bit_0 (lv_at hl 0 rfl) ?_
  refine r_if_eq cx 8 dX12_bit_1 (by decide) hF (fun hF => ?_) (fun hF => ?_)
  · refine r_iconst cx 0 dX12_bit_8 (by decide) ?_
    exact r_iret cx hP hr hk dX12_bit_9 (prF hF)
  · refine r_iconst cx 1 dX12_bit_4 (by decide) ?_
    refine r_goto cx 9 dX12_bit_5 (by decide) ?_
    exact r_iret cx hP hr hk dX12_bit_9 (prF hF)
set_option maxHeartbeats 4000000 in
set_option maxRecDepth 100000 in
theorem w12_wrongCard (l : Launch) (Γ : Wc) (ad : Nat → Nat → Nat) (A : Nat → Prop) (p1 : Int32) (σ : Sig) (r : Int32) (hF : f12_wrongCard p1 σ = some r) : MI l SM Γ ad A yX12_wrongCard cX12_wrongCard 3 (some .boolean) 1 22 [.ref (ad 0 0), .int p1] σ r σ := by
  refine MI.of (by decide) (Nat.le_of_ble_eq_true rfl) ?_
  intro p e s m args below meth c ls cx hr hk hP hl
  have hl : lv_has ls 3 [(0, .ref (ad 0 0)), (1, .int p1)] := hl
  rw [f12_wrongCard] at hF
  generalize hH0 : s.heap = H0 at hP ⊢
  generalize ([] : List Loc) = locs0 at hP ⊢
  clear hH0
  have b29 : ∀ (H : Heap) (locs : List Loc) (ls : Array Slot), PS SM Γ ad A s σ H locs → lv_has ls 3 [] → f12_wrongCard_b29 σ = some r → W p l e (rmz 1 22) s m args below meth c H locs 0 0 (QI SM Γ ad A below args s r σ) (F0 m 29 ls []) := by
    intro H locs ls hP hl hF
    rw [f12_wrongCard_b29] at hF
    refine r_iconst cx 1 dX12_wrongCard_29 (by decide) ?_
    refine r_goto cx 34 dX12_wrongCard_30 (by decide) ?_
    exact r_zret cx hP hr hk (by decide) dX12_wrongCard_34 (prF hF)
  refine r_aload_n cx dX12_wrongCard_0 (lv_at hl 0 rfl) ?_
  refine r_iload_n cx dX12_wrongCard_1 (lv_at hl 1 rfl) ?_
  refine r_iconst cx 5 dX12_wrongCard_2 (by decide) ?_
  obtain ⟨v1, hc, hF⟩ := bnd_some hF
  refine r_callVi cx hP (As := [.int p1, .int 5]) (w12_of l Γ ad A p1 5 σ v1 hc) mw12_88 ⟨Nat.le_of_ble_eq_true rfl, Nat.le_of_ble_eq_true rfl⟩ (dMr (by decide)) rfl rfl rfl (Nat.le_of_ble_eq_true rfl) hl.1 ⟨Nat.zero_le _, Nat.zero_le _⟩ dX12_wrongCard_3 (fun H locs hP => ?_)
  refine r_istore_n cx [(2, .int v1), (0, .ref (ad 0 0)), (1, .int p1)] dX12_wrongCard_6 hl (by decide) rfl (fun ls hl => ?_)
  refine r_iload_n cx dX12_wrongCard_7 (lv_at hl 0 rfl) ?_
  refine r_iconst cx (-1) dX12_wrongCard_8 (by decide) ?_
  refine r_icmp_eq cx 33 dX12_wrongCard_9 (by decide) hF (fun hF => ?_) (fun hF => ?_)
  · refine r_iconst cx 0 dX12_wrongCard_33 (by decide) ?_
    exact r_zret cx hP hr hk (by decide) dX12_wrongCard_34 (prF hF)
  · refine r_aload_n cx dX12_wrongCard_12 (lv_at hl 1 rfl) ?_
    refine r_iload_n cx dX12_wrongCard_13 (lv_at hl 0 rfl) ?_
    obtain ⟨v2, hc, hF⟩ := bnd_some hF
    refine r_callVi cx hP (As := [.int v1]) (w12_blocked l Γ ad A v1 σ v2 hc) mw12_111 ⟨Nat.le_of_ble_eq_true rfl, Nat.le_of_ble_eq_true rfl⟩ (dMr (by decide)) rfl rfl rfl (Nat.le_of_ble_eq_true rfl) hl.1 ⟨Nat.zero_le _, Nat.zero_le _⟩ dX12_wrongCard_14 (fun H locs hP => ?_)
    refine r_if_ne cx 29 dX12_wrongCard_17 (by decide) hF (fun hF => ?_) (fun hF => ?_)
    · exact b29 _ _ _ hP (lv_sub hl [] rfl) hF
    · refine r_aload_n cx dX12_wrongCard_20 (lv_at hl 1 rfl) ?_
      refine r_iload_n cx dX12_wrongCard_21 (lv_at hl 0 rfl) ?_
      obtain ⟨v3, hc, hF⟩ := bnd_some hF
      refine r_callVi cx hP (As := [.int v1]) (w12_passOfCard l Γ ad A v1 σ v3 hc) mw12_108 ⟨Nat.le_of_ble_eq_true rfl, Nat.le_of_ble_eq_true rfl⟩ (dMr (by decide)) rfl rfl rfl (Nat.le_of_ble_eq_true rfl) hl.1 ⟨Nat.zero_le _, Nat.zero_le _⟩ dX12_wrongCard_22 (fun H locs hP => ?_)
      refine r_iload_n cx dX12_wrongCard_25 (lv_at hl 2 rfl) ?_
      refine r_icmp_eq cx 33 dX12_wrongCard_26 (by decide) hF (fun hF => ?_) (fun hF => ?_)
      · refine r_iconst cx 0 dX12_wrongCard_33 (by decide) ?_
        exact r_zret cx hP hr hk (by decide) dX12_wrongCard_34 (prF hF)
      · exact b29 _ _ _ hP (lv_sub hl [] rfl) hF
set_option maxHeartbeats 4000000 in
set_option maxRecDepth 100000 in
theorem w12_violations (l : Launch) (Γ : Wc) (ad : Nat → Nat → Nat) (A : Nat → Prop)  (σ : Sig) (r : Int32) (σ1 : Sig) (hF : f12_violations  σ = some (r, σ1)) : MI l SM Γ ad A yX12_violations cX12_violations 6 (some .int) 2 44 [.ref (ad 0 0)] σ r σ1 := by
  refine MI.of (by decide) (Nat.le_of_ble_eq_true rfl) ?_
  intro p e s m args below meth c ls cx hr hk hP hl
  have hl : lv_has ls 6 [(0, .ref (ad 0 0))] := hl
  rw [f12_violations] at hF
  generalize hH0 : s.heap = H0 at hP ⊢
  generalize ([] : List Loc) = locs0 at hP ⊢
  clear hH0
  have b102 : ∀ (rc : Int32 → Int32 → Int32 → Int32 → Sig → Option (Int32 × Sig)) (ih : ∀ (x1 : Int32) (x2 : Int32) (x3 : Int32) (x4 : Int32) (σ : Sig) (H : Heap) (locs : List Loc) (ls : Array Slot), PS SM Γ ad A s σ H locs → lv_has ls 6 [(0, .ref (ad 0 0)), (1, .int x1), (2, .int x2), (3, .int x3), (4, .int x4)] → rc x1 x2 x3 x4 σ = some (r, σ1) → W p l e (rmz 2 44) s m args below meth c H locs 0 0 (QI SM Γ ad A below args s r σ1) (F0 m 20 ls [])) (x2 : Int32) (x3 : Int32) (x4 : Int32) (t0 : Int32) (t1 : Int32) (σ : Sig) (H : Heap) (locs : List Loc) (ls : Array Slot), PS SM Γ ad A s σ H locs → lv_has ls 6 [(0, .ref (ad 0 0)), (2, .int x2), (3, .int x3), (4, .int x4)] → f12_violations_b102 rc x2 x3 x4 t0 t1 σ = some (r, σ1) → W p l e (rmz 2 44) s m args below meth c H locs 0 0 (QI SM Γ ad A below args s r σ1) (F0 m 102 ls [.int t1, .int t0]) := by
    intro rc ih x2 x3 x4 t0 t1 σ H locs ls hP hl hF
    rw [f12_violations_b102] at hF
    obtain ⟨v1, hc, hF⟩ := bnd_some hF
    refine r_callSi cx hP (As := [.int t1]) (w12_bit l Γ ad A t1 σ v1 hc) mw12_323 ⟨Nat.le_of_ble_eq_true rfl, Nat.le_of_ble_eq_true rfl⟩ rfl (Nat.le_of_ble_eq_true rfl) hl.1 ⟨Nat.zero_le _, Nat.zero_le _⟩ dX12_violations_102 (fun H locs hP => ?_)
    refine r_iadd cx dX12_violations_105 hF (fun v2 hF => ?_)
    refine r_istore_n cx [(1, .int v2), (0, .ref (ad 0 0)), (2, .int x2), (3, .int x3), (4, .int x4)] dX12_violations_106 hl (by decide) rfl (fun ls hl => ?_)
    refine r_iload_n cx dX12_violations_107 (lv_at hl 2 rfl) ?_
    refine r_aload_n cx dX12_violations_108 (lv_at hl 1 rfl) ?_
    refine r_iload cx dX12_violations_109 (lv_at hl 4 rfl) ?_
    refine r_bipush cx 8 dX12_violations_111 (by decide) ?_
    obtain ⟨v3, hc, hF⟩ := bnd_some hF
    refine r_callVi cx hP (As := [.int x4, .int 8]) (w12_of l Γ ad A x4 8 σ v3 hc) mw12_88 ⟨Nat.le_of_ble_eq_true rfl, Nat.le_of_ble_eq_true rfl⟩ (dMr (by decide)) rfl rfl rfl (Nat.le_of_ble_eq_true rfl) hl.1 ⟨Nat.zero_le _, Nat.zero_le _⟩ dX12_violations_113 (fun H locs hP => ?_)
    refine r_iadd cx dX12_violations_116 hF (fun v4 hF => ?_)
    refine r_istore_n cx [(2, .int v4), (1, .int v2), (0, .ref (ad 0 0)), (3, .int x3), (4, .int x4)] dX12_violations_117 hl (by decide) rfl (fun ls hl => ?_)
    refine r_iload_n cx dX12_violations_118 (lv_at hl 3 rfl) ?_
    refine r_aload_n cx dX12_violations_119 (lv_at hl 2 rfl) ?_
    refine r_iload cx dX12_violations_120 (lv_at hl 4 rfl) ?_
    refine r_bipush cx 11 dX12_violations_122 (by decide) ?_
    obtain ⟨v5, hc, hF⟩ := bnd_some hF
    refine r_callVi cx hP (As := [.int x4, .int 11]) (w12_of l Γ ad A x4 11 σ v5 hc) mw12_88 ⟨Nat.le_of_ble_eq_true rfl, Nat.le_of_ble_eq_true rfl⟩ (dMr (by decide)) rfl rfl rfl (Nat.le_of_ble_eq_true rfl) hl.1 ⟨Nat.zero_le _, Nat.zero_le _⟩ dX12_violations_124 (fun H locs hP => ?_)
    refine r_iadd cx dX12_violations_127 hF (fun v6 hF => ?_)
    refine r_istore_n cx [(3, .int v6), (2, .int v4), (1, .int v2), (0, .ref (ad 0 0)), (4, .int x4)] dX12_violations_128 hl (by decide) rfl (fun ls hl => ?_)
    refine r_iinc cx (k := 4) (w := 1) (fun v7 => [(4, .int v7), (3, .int v6), (2, .int v4), (1, .int v2), (0, .ref (ad 0 0))]) dX12_violations_129 hl rfl (by decide) (by decide) hF (fun _ => rfl) (fun v7 ls hF hl => ?_)
    refine r_goto cx 20 dX12_violations_132 (by decide) ?_
    exact ih v2 v4 v6 v7 σ _ _ _ hP (lv_sub hl [4, 3, 2, 1, 0] rfl) hF
  have b101 : ∀ (rc : Int32 → Int32 → Int32 → Int32 → Sig → Option (Int32 × Sig)) (ih : ∀ (x1 : Int32) (x2 : Int32) (x3 : Int32) (x4 : Int32) (σ : Sig) (H : Heap) (locs : List Loc) (ls : Array Slot), PS SM Γ ad A s σ H locs → lv_has ls 6 [(0, .ref (ad 0 0)), (1, .int x1), (2, .int x2), (3, .int x3), (4, .int x4)] → rc x1 x2 x3 x4 σ = some (r, σ1) → W p l e (rmz 2 44) s m args below meth c H locs 0 0 (QI SM Γ ad A below args s r σ1) (F0 m 20 ls [])) (x2 : Int32) (x3 : Int32) (x4 : Int32) (t0 : Int32) (σ : Sig) (H : Heap) (locs : List Loc) (ls : Array Slot), PS SM Γ ad A s σ H locs → lv_has ls 6 [(0, .ref (ad 0 0)), (2, .int x2), (3, .int x3), (4, .int x4)] → f12_violations_b101 rc x2 x3 x4 t0 σ = some (r, σ1) → W p l e (rmz 2 44) s m args below meth c H locs 0 0 (QI SM Γ ad A below args s r σ1) (F0 m 101 ls [.int t0]) := by
    intro rc ih x2 x3 x4 t0 σ H locs ls hP hl hF
    rw [f12_violations_b101] at hF
    refine r_iconst cx 0 dX12_violations_101 (by decide) ?_
    exact b102 rc ih x2 x3 x4 t0 0 σ _ _ _ hP (lv_sub hl [0, 1, 2, 3] rfl) hF
  have b58 : ∀ (rc : Int32 → Int32 → Int32 → Int32 → Sig → Option (Int32 × Sig)) (ih : ∀ (x1 : Int32) (x2 : Int32) (x3 : Int32) (x4 : Int32) (σ : Sig) (H : Heap) (locs : List Loc) (ls : Array Slot), PS SM Γ ad A s σ H locs → lv_has ls 6 [(0, .ref (ad 0 0)), (1, .int x1), (2, .int x2), (3, .int x3), (4, .int x4)] → rc x1 x2 x3 x4 σ = some (r, σ1) → W p l e (rmz 2 44) s m args below meth c H locs 0 0 (QI SM Γ ad A below args s r σ1) (F0 m 20 ls [])) (x2 : Int32) (x3 : Int32) (x4 : Int32) (t0 : Int32) (t1 : Int32) (σ : Sig) (H : Heap) (locs : List Loc) (ls : Array Slot), PS SM Γ ad A s σ H locs → lv_has ls 6 [(0, .ref (ad 0 0)), (2, .int x2), (3, .int x3), (4, .int x4)] → f12_violations_b58 rc x2 x3 x4 t0 t1 σ = some (r, σ1) → W p l e (rmz 2 44) s m args below meth c H locs 0 0 (QI SM Γ ad A below args s r σ1) (F0 m 58 ls [.int t1, .int t0]) := by
    intro rc ih x2 x3 x4 t0 t1 σ H locs ls hP hl hF
    rw [f12_violations_b58] at hF
    obtain ⟨v8, hc, hF⟩ := bnd_some hF
    refine r_callSi cx hP (As := [.int t1]) (w12_bit l Γ ad A t1 σ v8 hc) mw12_323 ⟨Nat.le_of_ble_eq_true rfl, Nat.le_of_ble_eq_true rfl⟩ rfl (Nat.le_of_ble_eq_true rfl) hl.1 ⟨Nat.zero_le _, Nat.zero_le _⟩ dX12_violations_58 (fun H locs hP => ?_)
    refine r_aload_n cx dX12_violations_61 (lv_at hl 0 rfl) ?_
    refine r_iload cx dX12_violations_62 (lv_at hl 3 rfl) ?_
    obtain ⟨v9, hc, hF⟩ := bnd_some hF
    refine r_callVi cx hP (As := [.int x4]) (w12_wrongCard l Γ ad A x4 σ v9 hc) mw12_327 ⟨Nat.le_of_ble_eq_true rfl, Nat.le_of_ble_eq_true rfl⟩ (dMr (by decide)) rfl rfl rfl (Nat.le_of_ble_eq_true rfl) hl.1 ⟨Nat.zero_le _, Nat.zero_le _⟩ dX12_violations_64 (fun H locs hP => ?_)
    obtain ⟨v10, hc, hF⟩ := bnd_some hF
    refine r_callSi cx hP (As := [.int v9]) (w12_bit l Γ ad A v9 σ v10 hc) mw12_323 ⟨Nat.le_of_ble_eq_true rfl, Nat.le_of_ble_eq_true rfl⟩ rfl (Nat.le_of_ble_eq_true rfl) hl.1 ⟨Nat.zero_le _, Nat.zero_le _⟩ dX12_violations_67 (fun H locs hP => ?_)
    refine r_iadd cx dX12_violations_70 hF (fun v11 hF => ?_)
    refine r_iadd cx dX12_violations_71 hF (fun v12 hF => ?_)
    refine r_istore_n cx [(1, .int v12), (0, .ref (ad 0 0)), (2, .int x2), (3, .int x3), (4, .int x4)] dX12_violations_72 hl (by decide) rfl (fun ls hl => ?_)
    refine r_iload_n cx dX12_violations_73 (lv_at hl 0 rfl) ?_
    refine r_aload_n cx dX12_violations_74 (lv_at hl 1 rfl) ?_
    refine r_iload cx dX12_violations_75 (lv_at hl 4 rfl) ?_
    refine r_bipush cx 6 dX12_violations_77 (by decide) ?_
    obtain ⟨v13, hc, hF⟩ := bnd_some hF
    refine r_callVi cx hP (As := [.int x4, .int 6]) (w12_of l Γ ad A x4 6 σ v13 hc) mw12_88 ⟨Nat.le_of_ble_eq_true rfl, Nat.le_of_ble_eq_true rfl⟩ (dMr (by decide)) rfl rfl rfl (Nat.le_of_ble_eq_true rfl) hl.1 ⟨Nat.zero_le _, Nat.zero_le _⟩ dX12_violations_79 (fun H locs hP => ?_)
    refine r_iconst cx 1 dX12_violations_82 (by decide) ?_
    refine r_icmp_ne cx 101 dX12_violations_83 (by decide) hF (fun hF => ?_) (fun hF => ?_)
    · exact b101 rc ih x2 x3 x4 v12 σ _ _ _ hP (lv_sub hl [1, 2, 3, 4] rfl) hF
    · refine r_aload_n cx dX12_violations_86 (lv_at hl 1 rfl) ?_
      refine r_iload cx dX12_violations_87 (lv_at hl 4 rfl) ?_
      refine r_iconst cx 5 dX12_violations_89 (by decide) ?_
      obtain ⟨v14, hc, hF⟩ := bnd_some hF
      refine r_callVi cx hP (As := [.int x4, .int 5]) (w12_of l Γ ad A x4 5 σ v14 hc) mw12_88 ⟨Nat.le_of_ble_eq_true rfl, Nat.le_of_ble_eq_true rfl⟩ (dMr (by decide)) rfl rfl rfl (Nat.le_of_ble_eq_true rfl) hl.1 ⟨Nat.zero_le _, Nat.zero_le _⟩ dX12_violations_90 (fun H locs hP => ?_)
      refine r_iconst cx (-1) dX12_violations_93 (by decide) ?_
      refine r_icmp_eq cx 101 dX12_violations_94 (by decide) hF (fun hF => ?_) (fun hF => ?_)
      · exact b101 rc ih x2 x3 x4 v12 σ _ _ _ hP (lv_sub hl [1, 2, 3, 4] rfl) hF
      · refine r_iconst cx 1 dX12_violations_97 (by decide) ?_
        refine r_goto cx 102 dX12_violations_98 (by decide) ?_
        exact b102 rc ih x2 x3 x4 v12 1 σ _ _ _ hP (lv_sub hl [1, 2, 3, 4] rfl) hF
  have b193 : ∀ (rc : Int32 → Int32 → Int32 → Int32 → Sig → Option (Int32 × Sig)) (ih : ∀ (x1 : Int32) (x2 : Int32) (x3 : Int32) (x4 : Int32) (σ : Sig) (H : Heap) (locs : List Loc) (ls : Array Slot), PS SM Γ ad A s σ H locs → lv_has ls 6 [(0, .ref (ad 0 0)), (1, .int x1), (2, .int x2), (3, .int x3), (4, .int x4)] → rc x1 x2 x3 x4 σ = some (r, σ1) → W p l e (rmz 2 44) s m args below meth c H locs 0 0 (QI SM Γ ad A below args s r σ1) (F0 m 138 ls [])) (x1 : Int32) (x2 : Int32) (x3 : Int32) (x4 : Int32) (t0 : Int32) (σ : Sig) (H : Heap) (locs : List Loc) (ls : Array Slot), PS SM Γ ad A s σ H locs → lv_has ls 6 [(0, .ref (ad 0 0)), (1, .int x1), (2, .int x2), (3, .int x3), (4, .int x4)] → f12_violations_b193 rc x1 x2 x3 x4 t0 σ = some (r, σ1) → W p l e (rmz 2 44) s m args below meth c H locs 0 0 (QI SM Γ ad A below args s r σ1) (F0 m 193 ls [.int t0]) := by
    intro rc ih x1 x2 x3 x4 t0 σ H locs ls hP hl hF
    rw [f12_violations_b193] at hF
    refine r_istore cx [(5, .int t0), (0, .ref (ad 0 0)), (1, .int x1), (2, .int x2), (3, .int x3), (4, .int x4)] dX12_violations_193 hl (by decide) rfl (fun ls hl => ?_)
    refine r_iload_n cx dX12_violations_195 (lv_at hl 2 rfl) ?_
    refine r_iload cx dX12_violations_196 (lv_at hl 0 rfl) ?_
    obtain ⟨v15, hc, hF⟩ := bnd_some hF
    refine r_callSi cx hP (As := [.int t0]) (w12_bit l Γ ad A t0 σ v15 hc) mw12_323 ⟨Nat.le_of_ble_eq_true rfl, Nat.le_of_ble_eq_true rfl⟩ rfl (Nat.le_of_ble_eq_true rfl) hl.1 ⟨Nat.zero_le _, Nat.zero_le _⟩ dX12_violations_198 (fun H locs hP => ?_)
    refine r_iadd cx dX12_violations_201 hF (fun v16 hF => ?_)
    refine r_istore_n cx [(1, .int v16), (5, .int t0), (0, .ref (ad 0 0)), (2, .int x2), (3, .int x3), (4, .int x4)] dX12_violations_202 hl (by decide) rfl (fun ls hl => ?_)
    refine r_iinc cx (k := 5) (w := 1) (fun v17 => [(4, .int v17), (1, .int v16), (5, .int t0), (0, .ref (ad 0 0)), (2, .int x2), (3, .int x3)]) dX12_violations_203 hl rfl (by decide) (by decide) hF (fun _ => rfl) (fun v17 ls hF hl => ?_)
    refine r_goto cx 138 dX12_violations_206 (by decide) ?_
    exact ih v16 x2 x3 v17 σ _ _ _ hP (lv_sub hl [3, 1, 4, 5, 0] rfl) hF
  have b188 : ∀ (rc : Int32 → Int32 → Int32 → Int32 → Sig → Option (Int32 × Sig)) (ih : ∀ (x1 : Int32) (x2 : Int32) (x3 : Int32) (x4 : Int32) (σ : Sig) (H : Heap) (locs : List Loc) (ls : Array Slot), PS SM Γ ad A s σ H locs → lv_has ls 6 [(0, .ref (ad 0 0)), (1, .int x1), (2, .int x2), (3, .int x3), (4, .int x4)] → rc x1 x2 x3 x4 σ = some (r, σ1) → W p l e (rmz 2 44) s m args below meth c H locs 0 0 (QI SM Γ ad A below args s r σ1) (F0 m 138 ls [])) (x1 : Int32) (x2 : Int32) (x3 : Int32) (x4 : Int32) (σ : Sig) (H : Heap) (locs : List Loc) (ls : Array Slot), PS SM Γ ad A s σ H locs → lv_has ls 6 [(0, .ref (ad 0 0)), (1, .int x1), (2, .int x2), (3, .int x3), (4, .int x4)] → f12_violations_b188 rc x1 x2 x3 x4 σ = some (r, σ1) → W p l e (rmz 2 44) s m args below meth c H locs 0 0 (QI SM Γ ad A below args s r σ1) (F0 m 188 ls []) := by
    intro rc ih x1 x2 x3 x4 σ H locs ls hP hl hF
    rw [f12_violations_b188] at hF
    refine r_iconst cx 1 dX12_violations_188 (by decide) ?_
    refine r_goto cx 193 dX12_violations_189 (by decide) ?_
    exact b193 rc ih x1 x2 x3 x4 1 σ _ _ _ hP (lv_sub hl [0, 1, 2, 3, 4] rfl) hF
  have b243 : ∀ (t0 : Int32) (t1 : Int32) (σ : Sig) (H : Heap) (locs : List Loc) (ls : Array Slot), PS SM Γ ad A s σ H locs → lv_has ls 6 [] → f12_violations_b243 t0 t1 σ = some (r, σ1) → W p l e (rmz 2 44) s m args below meth c H locs 0 0 (QI SM Γ ad A below args s r σ1) (F0 m 243 ls [.int t1, .int t0]) := by
    intro t0 t1 σ H locs ls hP hl hF
    rw [f12_violations_b243] at hF
    obtain ⟨v18, hc, hF⟩ := bnd_some hF
    refine r_callSi cx hP (As := [.int t1]) (w12_bit l Γ ad A t1 σ v18 hc) mw12_323 ⟨Nat.le_of_ble_eq_true rfl, Nat.le_of_ble_eq_true rfl⟩ rfl (Nat.le_of_ble_eq_true rfl) hl.1 ⟨Nat.zero_le _, Nat.zero_le _⟩ dX12_violations_243 (fun H locs hP => ?_)
    refine r_iadd cx dX12_violations_246 hF (fun v19 hF => ?_)
    exact r_iret cx hP hr hk dX12_violations_247 hF
  have b223 : ∀ (x3 : Int32) (t0 : Int32) (t1 : Int32) (σ : Sig) (H : Heap) (locs : List Loc) (ls : Array Slot), PS SM Γ ad A s σ H locs → lv_has ls 6 [(0, .ref (ad 0 0)), (3, .int x3)] → f12_violations_b223 x3 t0 t1 σ = some (r, σ1) → W p l e (rmz 2 44) s m args below meth c H locs 0 0 (QI SM Γ ad A below args s r σ1) (F0 m 223 ls [.int t1, .int t0]) := by
    intro x3 t0 t1 σ H locs ls hP hl hF
    rw [f12_violations_b223] at hF
    obtain ⟨v20, hc, hF⟩ := bnd_some hF
    refine r_callSi cx hP (As := [.int t1]) (w12_bit l Γ ad A t1 σ v20 hc) mw12_323 ⟨Nat.le_of_ble_eq_true rfl, Nat.le_of_ble_eq_true rfl⟩ rfl (Nat.le_of_ble_eq_true rfl) hl.1 ⟨Nat.zero_le _, Nat.zero_le _⟩ dX12_violations_223 (fun H locs hP => ?_)
    refine r_iadd cx dX12_violations_226 hF (fun v21 hF => ?_)
    refine r_iload_n cx dX12_violations_227 (lv_at hl 1 rfl) ?_
    refine r_aload_n cx dX12_violations_228 (lv_at hl 0 rfl) ?_
    refine gf12_9 cx hP dX12_violations_229 ?_
    refine r_bipush cx 14 dX12_violations_232 (by decide) ?_
    refine r_iald cx hP (dMr (by decide)) rfl dX12_violations_234 hF (fun v22 hF => ?_)
    refine r_icmp_eq cx 242 dX12_violations_235 (by decide) hF (fun hF => ?_) (fun hF => ?_)
    · refine r_iconst cx 0 dX12_violations_242 (by decide) ?_
      exact b243 v21 0 σ _ _ _ hP (lv_sub hl [] rfl) hF
    · refine r_iconst cx 1 dX12_violations_238 (by decide) ?_
      refine r_goto cx 243 dX12_violations_239 (by decide) ?_
      exact b243 v21 1 σ _ _ _ hP (lv_sub hl [] rfl) hF
  have b138 : ∀ (fu : Nat) (x1 : Int32) (x2 : Int32) (x3 : Int32) (x4 : Int32) (σ : Sig) (H : Heap) (locs : List Loc) (ls : Array Slot), PS SM Γ ad A s σ H locs → lv_has ls 6 [(0, .ref (ad 0 0)), (1, .int x1), (2, .int x2), (3, .int x3), (4, .int x4)] → f12_violations_b138 fu x1 x2 x3 x4 σ = some (r, σ1) → W p l e (rmz 2 44) s m args below meth c H locs 0 0 (QI SM Γ ad A below args s r σ1) (F0 m 138 ls []) := by
    intro fu
    induction fu with
    | zero => intro x1 x2 x3 x4 σ H locs ls hP hl hF; exact nofu hF
    | succ fu ih =>
      intro x1 x2 x3 x4 σ H locs ls hP hl hF
      rw [f12_violations_b138] at hF
      refine r_iload cx dX12_violations_138 (lv_at hl 4 rfl) ?_
      refine r_aload_n cx dX12_violations_140 (lv_at hl 0 rfl) ?_
      refine gf12_9 cx hP dX12_violations_141 ?_
      refine r_iconst cx 1 dX12_violations_144 (by decide) ?_
      refine r_iald cx hP (dMr (by decide)) rfl dX12_violations_145 hF (fun v23 hF => ?_)
      refine r_icmp_ge cx 209 dX12_violations_146 (by decide) hF (fun hF => ?_) (fun hF => ?_)
      · refine r_iload_n cx dX12_violations_209 (lv_at hl 1 rfl) ?_
        refine r_iload_n cx dX12_violations_210 (lv_at hl 2 rfl) ?_
        refine r_aload_n cx dX12_violations_211 (lv_at hl 0 rfl) ?_
        obtain ⟨v24, hc, hF⟩ := bnd_some hF
        refine r_callVi cx hP (As := []) (w12_allVisits l Γ ad A σ v24 hc) mw12_320 ⟨Nat.le_of_ble_eq_true rfl, Nat.le_of_ble_eq_true rfl⟩ (dMr (by decide)) rfl rfl rfl (Nat.le_of_ble_eq_true rfl) hl.1 ⟨Nat.zero_le _, Nat.zero_le _⟩ dX12_violations_212 (fun H locs hP => ?_)
        refine r_icmp_eq cx 222 dX12_violations_215 (by decide) hF (fun hF => ?_) (fun hF => ?_)
        · refine r_iconst cx 0 dX12_violations_222 (by decide) ?_
          exact b223 x3 x1 0 σ _ _ _ hP (lv_sub hl [0, 3] rfl) hF
        · refine r_iconst cx 1 dX12_violations_218 (by decide) ?_
          refine r_goto cx 223 dX12_violations_219 (by decide) ?_
          exact b223 x3 x1 1 σ _ _ _ hP (lv_sub hl [0, 3] rfl) hF
      · refine r_aload_n cx dX12_violations_149 (lv_at hl 0 rfl) ?_
        refine r_iload cx dX12_violations_150 (lv_at hl 4 rfl) ?_
        refine r_iconst cx 5 dX12_violations_152 (by decide) ?_
        obtain ⟨v25, hc, hF⟩ := bnd_some hF
        refine r_callVi cx hP (As := [.int x4, .int 5]) (w12_bed l Γ ad A x4 5 σ v25 hc) mw12_85 ⟨Nat.le_of_ble_eq_true rfl, Nat.le_of_ble_eq_true rfl⟩ (dMr (by decide)) rfl rfl rfl (Nat.le_of_ble_eq_true rfl) hl.1 ⟨Nat.zero_le _, Nat.zero_le _⟩ dX12_violations_153 (fun H locs hP => ?_)
        refine r_aload_n cx dX12_violations_156 (lv_at hl 0 rfl) ?_
        refine r_iload cx dX12_violations_157 (lv_at hl 4 rfl) ?_
        refine r_iconst cx 1 dX12_violations_159 (by decide) ?_
        obtain ⟨v26, hc, hF⟩ := bnd_some hF
        refine r_callVi cx hP (As := [.int x4, .int 1]) (w12_bed l Γ ad A x4 1 σ v26 hc) mw12_85 ⟨Nat.le_of_ble_eq_true rfl, Nat.le_of_ble_eq_true rfl⟩ (dMr (by decide)) rfl rfl rfl (Nat.le_of_ble_eq_true rfl) hl.1 ⟨Nat.zero_le _, Nat.zero_le _⟩ dX12_violations_160 (fun H locs hP => ?_)
        refine r_icmp_gt cx 188 dX12_violations_163 (by decide) hF (fun hF => ?_) (fun hF => ?_)
        · exact b188 (f12_violations_b138 fu) ih x1 x2 x3 x4 σ _ _ _ hP (lv_sub hl [0, 1, 2, 3, 4] rfl) hF
        · refine r_aload_n cx dX12_violations_166 (lv_at hl 0 rfl) ?_
          refine r_iload cx dX12_violations_167 (lv_at hl 4 rfl) ?_
          refine r_iconst cx 4 dX12_violations_169 (by decide) ?_
          obtain ⟨v27, hc, hF⟩ := bnd_some hF
          refine r_callVi cx hP (As := [.int x4, .int 4]) (w12_bed l Γ ad A x4 4 σ v27 hc) mw12_85 ⟨Nat.le_of_ble_eq_true rfl, Nat.le_of_ble_eq_true rfl⟩ (dMr (by decide)) rfl rfl rfl (Nat.le_of_ble_eq_true rfl) hl.1 ⟨Nat.zero_le _, Nat.zero_le _⟩ dX12_violations_170 (fun H locs hP => ?_)
          refine r_if_lt cx 188 dX12_violations_173 (by decide) hF (fun hF => ?_) (fun hF => ?_)
          · exact b188 (f12_violations_b138 fu) ih x1 x2 x3 x4 σ _ _ _ hP (lv_sub hl [0, 1, 2, 3, 4] rfl) hF
          · refine r_aload_n cx dX12_violations_176 (lv_at hl 0 rfl) ?_
            refine r_iload cx dX12_violations_177 (lv_at hl 4 rfl) ?_
            refine r_iconst cx 4 dX12_violations_179 (by decide) ?_
            obtain ⟨v28, hc, hF⟩ := bnd_some hF
            refine r_callVi cx hP (As := [.int x4, .int 4]) (w12_bed l Γ ad A x4 4 σ v28 hc) mw12_85 ⟨Nat.le_of_ble_eq_true rfl, Nat.le_of_ble_eq_true rfl⟩ (dMr (by decide)) rfl rfl rfl (Nat.le_of_ble_eq_true rfl) hl.1 ⟨Nat.zero_le _, Nat.zero_le _⟩ dX12_violations_180 (fun H locs hP => ?_)
            refine r_bipush cx 50 dX12_violations_183 (by decide) ?_
            refine r_icmp_le cx 192 dX12_violations_185 (by decide) hF (fun hF => ?_) (fun hF => ?_)
            · refine r_iconst cx 0 dX12_violations_192 (by decide) ?_
              exact b193 (f12_violations_b138 fu) ih x1 x2 x3 x4 0 σ _ _ _ hP (lv_sub hl [0, 1, 2, 3, 4] rfl) hF
            · exact b188 (f12_violations_b138 fu) ih x1 x2 x3 x4 σ _ _ _ hP (lv_sub hl [0, 1, 2, 3, 4] rfl) hF
  have b20 : ∀ (fu : Nat) (x1 : Int32) (x2 : Int32) (x3 : Int32) (x4 : Int32) (σ : Sig) (H : Heap) (locs : List Loc) (ls : Array Slot), PS SM Γ ad A s σ H locs → lv_has ls 6 [(0, .ref (ad 0 0)), (1, .int x1), (2, .int x2), (3, .int x3), (4, .int x4)] → f12_violations_b20 fu x1 x2 x3 x4 σ = some (r, σ1) → W p l e (rmz 2 44) s m args below meth c H locs 0 0 (QI SM Γ ad A below args s r σ1) (F0 m 20 ls []) := by
    intro fu
    induction fu with
    | zero => intro x1 x2 x3 x4 σ H locs ls hP hl hF; exact nofu hF
    | succ fu ih =>
      intro x1 x2 x3 x4 σ H locs ls hP hl hF
      rw [f12_violations_b20] at hF
      refine r_iload cx dX12_violations_20 (lv_at hl 4 rfl) ?_
      refine r_aload_n cx dX12_violations_22 (lv_at hl 0 rfl) ?_
      refine gf12_9 cx hP dX12_violations_23 ?_
      refine r_iconst cx 2 dX12_violations_26 (by decide) ?_
      refine r_iald cx hP (dMr (by decide)) rfl dX12_violations_27 hF (fun v29 hF => ?_)
      refine r_icmp_ge cx 135 dX12_violations_28 (by decide) hF (fun hF => ?_) (fun hF => ?_)
      · refine r_iconst cx 0 dX12_violations_135 (by decide) ?_
        refine r_istore cx [(4, .int 0), (0, .ref (ad 0 0)), (1, .int x1), (2, .int x2), (3, .int x3)] dX12_violations_136 hl (by decide) rfl (fun ls hl => ?_)
        exact b138 FU x1 x2 x3 0 σ _ _ _ hP (lv_sub hl [1, 2, 3, 4, 0] rfl) hF
      · refine r_iload_n cx dX12_violations_31 (lv_at hl 1 rfl) ?_
        refine r_aload_n cx dX12_violations_32 (lv_at hl 0 rfl) ?_
        refine r_iload cx dX12_violations_33 (lv_at hl 4 rfl) ?_
        refine r_bipush cx 7 dX12_violations_35 (by decide) ?_
        obtain ⟨v30, hc, hF⟩ := bnd_some hF
        refine r_callVi cx hP (As := [.int x4, .int 7]) (w12_of l Γ ad A x4 7 σ v30 hc) mw12_88 ⟨Nat.le_of_ble_eq_true rfl, Nat.le_of_ble_eq_true rfl⟩ (dMr (by decide)) rfl rfl rfl (Nat.le_of_ble_eq_true rfl) hl.1 ⟨Nat.zero_le _, Nat.zero_le _⟩ dX12_violations_37 (fun H locs hP => ?_)
        obtain ⟨v31, hc, hF⟩ := bnd_some hF
        refine r_callSi cx hP (As := [.int v30]) (w12_ones l Γ ad A v30 σ v31 hc) mw12_317 ⟨Nat.le_of_ble_eq_true rfl, Nat.le_of_ble_eq_true rfl⟩ rfl (Nat.le_of_ble_eq_true rfl) hl.1 ⟨Nat.zero_le _, Nat.zero_le _⟩ dX12_violations_40 (fun H locs hP => ?_)
        refine r_aload_n cx dX12_violations_43 (lv_at hl 0 rfl) ?_
        refine r_iload cx dX12_violations_44 (lv_at hl 4 rfl) ?_
        refine r_iconst cx 2 dX12_violations_46 (by decide) ?_
        obtain ⟨v32, hc, hF⟩ := bnd_some hF
        refine r_callVi cx hP (As := [.int x4, .int 2]) (w12_of l Γ ad A x4 2 σ v32 hc) mw12_88 ⟨Nat.le_of_ble_eq_true rfl, Nat.le_of_ble_eq_true rfl⟩ (dMr (by decide)) rfl rfl rfl (Nat.le_of_ble_eq_true rfl) hl.1 ⟨Nat.zero_le _, Nat.zero_le _⟩ dX12_violations_47 (fun H locs hP => ?_)
        refine r_icmp_le cx 57 dX12_violations_50 (by decide) hF (fun hF => ?_) (fun hF => ?_)
        · refine r_iconst cx 0 dX12_violations_57 (by decide) ?_
          exact b58 (f12_violations_b20 fu) ih x2 x3 x4 x1 0 σ _ _ _ hP (lv_sub hl [0, 2, 3, 4] rfl) hF
        · refine r_iconst cx 1 dX12_violations_53 (by decide) ?_
          refine r_goto cx 58 dX12_violations_54 (by decide) ?_
          exact b58 (f12_violations_b20 fu) ih x2 x3 x4 x1 1 σ _ _ _ hP (lv_sub hl [0, 2, 3, 4] rfl) hF
  refine r_aload_n cx dX12_violations_0 (lv_at hl 0 rfl) ?_
  refine r_iconst cx 0 dX12_violations_1 (by decide) ?_
  refine pf12_63 cx hP dX12_violations_2 hF (fun s33 H locs hP hF => ?_)
  refine r_iconst cx 0 dX12_violations_5 (by decide) ?_
  refine r_istore_n cx [(1, .int 0), (0, .ref (ad 0 0))] dX12_violations_6 hl (by decide) rfl (fun ls hl => ?_)
  refine r_iconst cx 0 dX12_violations_7 (by decide) ?_
  refine r_istore_n cx [(2, .int 0), (1, .int 0), (0, .ref (ad 0 0))] dX12_violations_8 hl (by decide) rfl (fun ls hl => ?_)
  refine r_aload_n cx dX12_violations_9 (lv_at hl 2 rfl) ?_
  refine gf12_9 cx hP dX12_violations_10 ?_
  refine r_bipush cx 11 dX12_violations_13 (by decide) ?_
  refine r_iald cx hP (dMr (by decide)) rfl dX12_violations_15 hF (fun v34 hF => ?_)
  refine r_istore_n cx [(3, .int v34), (2, .int 0), (1, .int 0), (0, .ref (ad 0 0))] dX12_violations_16 hl (by decide) rfl (fun ls hl => ?_)
  refine r_iconst cx 0 dX12_violations_17 (by decide) ?_
  refine r_istore cx [(4, .int 0), (3, .int v34), (2, .int 0), (1, .int 0), (0, .ref (ad 0 0))] dX12_violations_18 hl (by decide) rfl (fun ls hl => ?_)
  exact b20 FU 0 0 v34 0 s33 _ _ _ hP (lv_sub hl [4, 3, 2, 1, 0] rfl) hF
set_option maxHeartbeats 4000000 in
set_option maxRecDepth 100000 in
theorem w12_signOf (l : Launch) (Γ : Wc) (ad : Nat → Nat → Nat) (A : Nat → Prop) (p1 : Int32) (p2 : Int32) (σ : Sig) (r : Int32) (hF : f12_signOf p1 p2 σ = some r) : MI l SM Γ ad A yX12_signOf cX12_signOf 3 (some .int) 1 22 [.ref (ad 0 0), .int p1, .int p2] σ r σ := by
  refine MI.of (by decide) (Nat.le_of_ble_eq_true rfl) ?_
  intro p e s m args below meth c ls cx hr hk hP hl
  have hl : lv_has ls 3 [(0, .ref (ad 0 0)), (1, .int p1), (2, .int p2)] := hl
  rw [f12_signOf] at hF
  refine r_aload_n cx dX12_signOf_0 (lv_at hl 0 rfl) ?_
  refine r_iload_n cx dX12_signOf_1 (lv_at hl 1 rfl) ?_
  refine r_bipush cx 7 dX12_signOf_2 (by decide) ?_
  obtain ⟨v1, hc, hF⟩ := bnd_some hF
  refine r_callVi cx hP (As := [.int p1, .int 7]) (w12_of l Γ ad A p1 7 σ v1 hc) mw12_88 ⟨Nat.le_of_ble_eq_true rfl, Nat.le_of_ble_eq_true rfl⟩ (dMr (by decide)) rfl rfl rfl (Nat.le_of_ble_eq_true rfl) hl.1 ⟨Nat.zero_le _, Nat.zero_le _⟩ dX12_signOf_4 (fun H locs hP => ?_)
  refine r_iload_n cx dX12_signOf_7 (lv_at hl 2 rfl) ?_
  refine r_ishr cx dX12_signOf_8 hF (fun v2 hF => ?_)
  refine r_iconst cx 1 dX12_signOf_9 (by decide) ?_
  refine r_iand cx dX12_signOf_10 hF (fun v3 hF => ?_)
  refine r_iconst cx 1 dX12_signOf_11 (by decide) ?_
  refine r_icmp_ne cx 18 dX12_signOf_12 (by decide) hF (fun hF => ?_) (fun hF => ?_)
  · refine r_aload_n cx dX12_signOf_18 (lv_at hl 0 rfl) ?_
    refine r_iload_n cx dX12_signOf_19 (lv_at hl 1 rfl) ?_
    refine r_iconst cx 1 dX12_signOf_20 (by decide) ?_
    obtain ⟨v4, hc, hF⟩ := bnd_some hF
    refine r_callVi cx hP (As := [.int p1, .int 1]) (w12_of l Γ ad A p1 1 σ v4 hc) mw12_88 ⟨Nat.le_of_ble_eq_true rfl, Nat.le_of_ble_eq_true rfl⟩ (dMr (by decide)) rfl rfl rfl (Nat.le_of_ble_eq_true rfl) hl.1 ⟨Nat.zero_le _, Nat.zero_le _⟩ dX12_signOf_21 (fun H locs hP => ?_)
    refine r_iload_n cx dX12_signOf_24 (lv_at hl 2 rfl) ?_
    refine r_iadd cx dX12_signOf_25 hF (fun v5 hF => ?_)
    refine r_aload_n cx dX12_signOf_26 (lv_at hl 0 rfl) ?_
    obtain ⟨v6, hc, hF⟩ := bnd_some hF
    refine r_callVi cx hP (As := []) (w12_today l Γ ad A σ v6 hc) mw12_81 ⟨Nat.le_of_ble_eq_true rfl, Nat.le_of_ble_eq_true rfl⟩ (dMr (by decide)) rfl rfl rfl (Nat.le_of_ble_eq_true rfl) hl.1 ⟨Nat.zero_le _, Nat.zero_le _⟩ dX12_signOf_27 (fun H locs hP => ?_)
    refine r_icmp_ge cx 38 dX12_signOf_30 (by decide) hF (fun hF => ?_) (fun hF => ?_)
    · refine r_bipush cx 46 dX12_signOf_38 (by decide) ?_
      exact r_iret cx hP hr hk dX12_signOf_40 (prF hF)
    · refine r_bipush cx 45 dX12_signOf_33 (by decide) ?_
      refine r_goto cx 40 dX12_signOf_35 (by decide) ?_
      exact r_iret cx hP hr hk dX12_signOf_40 (prF hF)
  · refine r_bipush cx 120 dX12_signOf_15 (by decide) ?_
    exact r_iret cx hP hr hk dX12_signOf_17 (prF hF)
set_option maxHeartbeats 4000000 in
set_option maxRecDepth 100000 in
theorem w12_writePass (l : Launch) (Γ : Wc) (ad : Nat → Nat → Nat) (A : Nat → Prop) (p1 : Int32) (σ : Sig) (r : Int32) (σ1 : Sig) (hF : f12_writePass p1 σ = some (r, σ1)) : MI l SM Γ ad A yX12_writePass cX12_writePass 3 (some .int) 2 45 [.ref (ad 0 0), .int p1] σ r σ1 := by
  refine MI.of (by decide) (Nat.le_of_ble_eq_true rfl) ?_
  intro p e s m args below meth c ls cx hr hk hP hl
  have hl : lv_has ls 3 [(0, .ref (ad 0 0)), (1, .int p1)] := hl
  rw [f12_writePass] at hF
  generalize hH0 : s.heap = H0 at hP ⊢
  generalize ([] : List Loc) = locs0 at hP ⊢
  clear hH0
  have b27 : ∀ (fu : Nat) (x1 : Int32) (x2 : Int32) (σ : Sig) (H : Heap) (locs : List Loc) (ls : Array Slot), PS SM Γ ad A s σ H locs → lv_has ls 3 [(0, .ref (ad 0 0)), (1, .int x1), (2, .int x2)] → f12_writePass_b27 fu x1 x2 σ = some (r, σ1) → W p l e (rmz 2 45) s m args below meth c H locs 0 0 (QI SM Γ ad A below args s r σ1) (F0 m 27 ls []) := by
    intro fu
    induction fu with
    | zero => intro x1 x2 σ H locs ls hP hl hF; exact nofu hF
    | succ fu ih =>
      intro x1 x2 σ H locs ls hP hl hF
      rw [f12_writePass_b27] at hF
      refine r_iload_n cx dX12_writePass_27 (lv_at hl 2 rfl) ?_
      refine r_aload_n cx dX12_writePass_28 (lv_at hl 0 rfl) ?_
      refine gf12_330 cx hP dX12_writePass_29 hF (fun v1 hF => ?_)
      refine r_icmp_ge cx 54 dX12_writePass_32 (by decide) hF (fun hF => ?_) (fun hF => ?_)
      · refine r_aload_n cx dX12_writePass_54 (lv_at hl 0 rfl) ?_
        refine gf12_330 cx hP dX12_writePass_55 hF (fun v2 hF => ?_)
        exact r_iret cx hP hr hk dX12_writePass_58 hF
      · refine r_aload_n cx dX12_writePass_35 (lv_at hl 0 rfl) ?_
        refine gf12_27 cx hP dX12_writePass_36 ?_
        refine r_iload_n cx dX12_writePass_39 (lv_at hl 2 rfl) ?_
        refine r_aload_n cx dX12_writePass_40 (lv_at hl 0 rfl) ?_
        refine r_iload_n cx dX12_writePass_41 (lv_at hl 1 rfl) ?_
        refine r_iload_n cx dX12_writePass_42 (lv_at hl 2 rfl) ?_
        obtain ⟨v3, hc, hF⟩ := bnd_some hF
        refine r_callVi cx hP (As := [.int x1, .int x2]) (w12_signOf l Γ ad A x1 x2 σ v3 hc) mw12_333 ⟨Nat.le_of_ble_eq_true rfl, Nat.le_of_ble_eq_true rfl⟩ (dMr (by decide)) rfl rfl rfl (Nat.le_of_ble_eq_true rfl) hl.1 ⟨Nat.zero_le _, Nat.zero_le _⟩ dX12_writePass_43 (fun H locs hP => ?_)
        refine r_i2b cx dX12_writePass_46 hF (fun v4 hF => ?_)
        refine r_bast cx hP (dMr (by decide)) (fun _ => rfl) dX12_writePass_47 hF (fun s5 H locs hP hF => ?_)
        refine r_iinc cx (k := 2) (w := 1) (fun v6 => [(2, .int v6), (0, .ref (ad 0 0)), (1, .int x1)]) dX12_writePass_48 hl rfl (by decide) (by decide) hF (fun _ => rfl) (fun v6 ls hF hl => ?_)
        refine r_goto cx 27 dX12_writePass_51 (by decide) ?_
        exact ih x1 v6 s5 _ _ _ hP (lv_sub hl [1, 2, 0] rfl) hF
  refine r_aload_n cx dX12_writePass_0 (lv_at hl 0 rfl) ?_
  refine r_iconst cx 0 dX12_writePass_1 (by decide) ?_
  refine pf12_63 cx hP dX12_writePass_2 hF (fun s7 H locs hP hF => ?_)
  refine r_aload_n cx dX12_writePass_5 (lv_at hl 0 rfl) ?_
  refine r_iload_n cx dX12_writePass_6 (lv_at hl 1 rfl) ?_
  obtain ⟨v8, s9, hc, hF⟩ := bns_some hF
  refine r_callVi cx hP (As := [.int p1]) (w12_noPass l Γ ad A p1 s7 v8 s9 hc) mw12_163 ⟨Nat.le_of_ble_eq_true rfl, Nat.le_of_ble_eq_true rfl⟩ (dMr (by decide)) rfl rfl rfl (Nat.le_of_ble_eq_true rfl) hl.1 ⟨Nat.zero_le _, Nat.zero_le _⟩ dX12_writePass_7 (fun H locs hP => ?_)
  refine r_if_eq cx 15 dX12_writePass_10 (by decide) hF (fun hF => ?_) (fun hF => ?_)
  · refine r_aload_n cx dX12_writePass_15 (lv_at hl 0 rfl) ?_
    refine r_aload_n cx dX12_writePass_16 (lv_at hl 0 rfl) ?_
    refine r_iload_n cx dX12_writePass_17 (lv_at hl 1 rfl) ?_
    refine r_iconst cx 2 dX12_writePass_18 (by decide) ?_
    obtain ⟨v10, hc, hF⟩ := bnd_some hF
    refine r_callVi cx hP (As := [.int p1, .int 2]) (w12_of l Γ ad A p1 2 s9 v10 hc) mw12_88 ⟨Nat.le_of_ble_eq_true rfl, Nat.le_of_ble_eq_true rfl⟩ (dMr (by decide)) rfl rfl rfl (Nat.le_of_ble_eq_true rfl) hl.1 ⟨Nat.zero_le _, Nat.zero_le _⟩ dX12_writePass_19 (fun H locs hP => ?_)
    refine pf12_330 cx hP dX12_writePass_22 hF (fun s11 H locs hP hF => ?_)
    refine r_iconst cx 0 dX12_writePass_25 (by decide) ?_
    refine r_istore_n cx [(2, .int 0), (0, .ref (ad 0 0)), (1, .int p1)] dX12_writePass_26 hl (by decide) rfl (fun ls hl => ?_)
    exact b27 FU p1 0 s11 _ _ _ hP (lv_sub hl [1, 2, 0] rfl) hF
  · refine r_iconst cx 0 dX12_writePass_13 (by decide) ?_
    exact r_iret cx hP hr hk dX12_writePass_14 hF
set_option maxHeartbeats 4000000 in
set_option maxRecDepth 100000 in
theorem w12_reportByte (l : Launch) (Γ : Wc) (ad : Nat → Nat → Nat) (A : Nat → Prop) (p1 : Int32) (σ : Sig) (r : Int32) (σ1 : Sig) (hF : f12_reportByte p1 σ = some (r, σ1)) : MI l SM Γ ad A yX12_reportByte cX12_reportByte 2 (some .int) 0 0 [.ref (ad 0 0), .int p1] σ r σ1 := by
  refine MI.of (by decide) (Nat.le_of_ble_eq_true rfl) ?_
  intro p e s m args below meth c ls cx hr hk hP hl
  have hl : lv_has ls 2 [(0, .ref (ad 0 0)), (1, .int p1)] := hl
  rw [f12_reportByte] at hF
  generalize hH0 : s.heap = H0 at hP ⊢
  generalize ([] : List Loc) = locs0 at hP ⊢
  clear hH0
  have b17 : ∀ (σ : Sig) (H : Heap) (locs : List Loc) (ls : Array Slot), PS SM Γ ad A s σ H locs → lv_has ls 2 [] → f12_reportByte_b17 σ = some (r, σ1) → W p l e (rmz 0 0) s m args below meth c H locs 0 0 (QI SM Γ ad A below args s r σ1) (F0 m 17 ls []) := by
    intro σ H locs ls hP hl hF
    rw [f12_reportByte_b17] at hF
    refine r_iconst cx (-1) dX12_reportByte_17 (by decide) ?_
    refine r_goto cx 27 dX12_reportByte_18 (by decide) ?_
    exact r_iret cx hP hr hk dX12_reportByte_27 hF
  refine r_aload_n cx dX12_reportByte_0 (lv_at hl 0 rfl) ?_
  refine r_iconst cx 0 dX12_reportByte_1 (by decide) ?_
  refine pf12_63 cx hP dX12_reportByte_2 hF (fun s1 H locs hP hF => ?_)
  refine r_iload_n cx dX12_reportByte_5 (lv_at hl 1 rfl) ?_
  refine r_if_lt cx 17 dX12_reportByte_6 (by decide) hF (fun hF => ?_) (fun hF => ?_)
  · exact b17 s1 _ _ _ hP (lv_sub hl [] rfl) hF
  · refine r_iload_n cx dX12_reportByte_9 (lv_at hl 1 rfl) ?_
    refine r_aload_n cx dX12_reportByte_10 (lv_at hl 0 rfl) ?_
    refine gf12_330 cx hP dX12_reportByte_11 hF (fun v2 hF => ?_)
    refine r_icmp_lt cx 21 dX12_reportByte_14 (by decide) hF (fun hF => ?_) (fun hF => ?_)
    · refine r_aload_n cx dX12_reportByte_21 (lv_at hl 0 rfl) ?_
      refine gf12_27 cx hP dX12_reportByte_22 ?_
      refine r_iload_n cx dX12_reportByte_25 (lv_at hl 1 rfl) ?_
      refine r_bald cx hP (dMr (by decide)) rfl dX12_reportByte_26 hF (fun v3 hF => ?_)
      exact r_iret cx hP hr hk dX12_reportByte_27 hF
    · exact b17 s1 _ _ _ hP (lv_sub hl [] rfl) hF
set_option maxHeartbeats 4000000 in
set_option maxRecDepth 100000 in
theorem w6_fill (l : Launch) (Γ : Wc) (ad : Nat → Nat → Nat) (A : Nat → Prop) (k1 : Nat) (hk1 : k1 < strN) (σ : Sig) (σ1 : Sig) (hF : f6_fill k1 σ = some σ1) : MV l SX Γ ad A yX6_fill cX6_fill 3 4 86 [.ref (ad 0 4), .ref (Γ.2.2.1 k1)] σ σ1 := by
  refine MV.of (by decide) (Nat.le_of_ble_eq_true rfl) ?_
  intro p e s m args below meth c ls cx hr hk hP hl
  have hl : lv_has ls 3 [(0, .ref (ad 0 4)), (1, .ref (Γ.2.2.1 k1))] := hl
  rw [f6_fill] at hF
  generalize hH0 : s.heap = H0 at hP ⊢
  generalize ([] : List Loc) = locs0 at hP ⊢
  clear hH0
  have b16 : ∀ (fu : Nat) (x2 : Int32) (σ : Sig) (H : Heap) (locs : List Loc) (ls : Array Slot), PS SX Γ ad A s σ H locs → lv_has ls 3 [(0, .ref (ad 0 4)), (1, .ref (Γ.2.2.1 k1)), (2, .int x2)] → f6_fill_b16 k1 fu x2 σ = some σ1 → W p l e (rmz 4 86) s m args below meth c H locs 0 0 (QV SX Γ ad A below args s σ1) (F0 m 16 ls []) := by
    intro fu
    induction fu with
    | zero => intro x2 σ H locs ls hP hl hF; exact nofu hF
    | succ fu ih =>
      intro x2 σ H locs ls hP hl hF
      rw [f6_fill_b16] at hF
      refine r_iload_n cx dX6_fill_16 (lv_at hl 2 rfl) ?_
      refine r_aload_n cx dX6_fill_17 (lv_at hl 0 rfl) ?_
      refine gf6_27 cx hP dX6_fill_18 hF (fun v1 hF => ?_)
      refine r_icmp_ge cx 42 dX6_fill_21 (by decide) hF (fun hF => ?_) (fun hF => ?_)
      · exact r_vret cx hP hr hk dX6_fill_42 hF
      · refine r_aload_n cx dX6_fill_24 (lv_at hl 0 rfl) ?_
        refine gf6_9 cx hP dX6_fill_25 ?_
        refine r_iload_n cx dX6_fill_28 (lv_at hl 2 rfl) ?_
        refine r_aload_n cx dX6_fill_29 (lv_at hl 1 rfl) ?_
        refine r_iload_n cx dX6_fill_30 (lv_at hl 2 rfl) ?_
        refine r_charAt cx hP hk1 mw6_30 ⟨Nat.le_of_ble_eq_true rfl, Nat.le_of_ble_eq_true rfl⟩ rfl (Nat.le_of_ble_eq_true rfl) hl.1 ⟨Nat.zero_le _, Nat.zero_le _⟩ dX6_fill_31 hF (fun v2 H locs hP hF => ?_)
        refine r_i2b cx dX6_fill_34 hF (fun v3 hF => ?_)
        refine r_bast cx hP (dXr (by decide)) (fun _ => rfl) dX6_fill_35 hF (fun s4 H locs hP hF => ?_)
        refine r_iinc cx (k := 2) (w := 1) (fun v5 => [(2, .int v5), (0, .ref (ad 0 4)), (1, .ref (Γ.2.2.1 k1))]) dX6_fill_36 hl rfl (by decide) (by decide) hF (fun _ => rfl) (fun v5 ls hF hl => ?_)
        refine r_goto cx 16 dX6_fill_39 (by decide) ?_
        exact ih v5 s4 _ _ _ hP (lv_sub hl [1, 2, 0] rfl) hF
  refine r_aload_n cx dX6_fill_0 (lv_at hl 0 rfl) ?_
  refine r_sipush cx 500 dX6_fill_1 (by decide) ?_
  refine r_aload_n cx dX6_fill_4 (lv_at hl 1 rfl) ?_
  refine r_strlen cx hP hk1 mw6_15 ⟨Nat.le_of_ble_eq_true rfl, Nat.le_of_ble_eq_true rfl⟩ hl.1 (Nat.le_of_ble_eq_true rfl) ⟨Nat.zero_le _, Nat.zero_le _⟩ dX6_fill_5 hF (fun v6 H locs hP hF => ?_)
  refine r_mmin cx mw6_21 ⟨Nat.le_of_ble_eq_true rfl, Nat.le_of_ble_eq_true rfl⟩ ⟨Nat.zero_le _, Nat.zero_le _⟩ hl.1 dX6_fill_8 hF (fun v7 hF => ?_)
  refine pf6_27 cx hP dX6_fill_11 hF (fun s8 H locs hP hF => ?_)
  refine r_iconst cx 0 dX6_fill_14 (by decide) ?_
  refine r_istore_n cx [(2, .int 0), (0, .ref (ad 0 4)), (1, .ref (Γ.2.2.1 k1))] dX6_fill_15 hl (by decide) rfl (fun ls hl => ?_)
  exact b16 FU 0 s8 _ _ _ hP (lv_sub hl [1, 2, 0] rfl) hF
