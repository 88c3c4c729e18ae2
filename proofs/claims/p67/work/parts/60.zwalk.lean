/-! printed: the class's methods, where nothing is thrown -/
set_option maxHeartbeats 4000000 in
set_option maxRecDepth 100000 in
theorem z11_requirePass (l : Launch) (Γ : Wc) (ad : Nat → Nat → Nat) (A : Nat → Prop) (p1 : Int32) (σ : Sig) (r : Int32) (σ1 : Sig) (hF : f11_requirePass p1 σ = some (0, r, σ1)) : MV l SX Γ ad A yX11_requirePass cX11_requirePass 2 6 90 [.ref (ad 0 0), .int p1] σ σ1 := by
  refine MV.of (by decide) (Nat.le_of_ble_eq_true rfl) ?_
  intro p e s m args below meth c ls cx hr hk hP hl
  have hl : lv_has ls 2 [(0, .ref (ad 0 0)), (1, .int p1)] := hl
  rw [f11_requirePass] at hF
  refine r_aload_n cx dX11_requirePass_0 (lv_at hl 0 rfl) ?_
  refine gf11_12 cx hP dX11_requirePass_1 ?_
  refine gf11_79 cx hP (by decide : 8 < 11) dX11_requirePass_4 ?_
  refine r_iload_n cx dX11_requirePass_7 (lv_at hl 1 rfl) ?_
  obtain ⟨v1, hc, hF⟩ := bnd_some hF
  refine r_callVi cx hP (As := [.int p1]) (w7_has l Γ ad A 8 (by decide : 8 < 11) p1 σ v1 hc) mw11_372 ⟨Nat.le_of_ble_eq_true rfl, Nat.le_of_ble_eq_true rfl⟩ (dXg (by decide : 8 < 11) (by decide)) rfl rfl rfl (Nat.le_of_ble_eq_true rfl) hl.1 ⟨Nat.zero_le _, Nat.zero_le _⟩ dX11_requirePass_8 (fun H locs hP => ?_)
  refine r_if_ne cx 25 dX11_requirePass_11 (by decide) hF (fun hF => ?_) (fun hF => ?_)
  · exact r_vret cx hP hr hk dX11_requirePass_25 (nt2 hF)
  · exact nt0 (by decide) hF
set_option maxHeartbeats 4000000 in
set_option maxRecDepth 100000 in
theorem z11_visitsWith (l : Launch) (Γ : Wc) (ad : Nat → Nat → Nat) (A : Nat → Prop) (p1 : Int32) (σ : Sig) (r : Int32) (σ1 : Sig) (hF : f11_visitsWith p1 σ = some (0, r, σ1)) : MI l SX Γ ad A yX11_visitsWith cX11_visitsWith 2 (some .int) 7 111 [.ref (ad 0 0), .int p1] σ r σ1 := by
  refine MI.of (by decide) (Nat.le_of_ble_eq_true rfl) ?_
  intro p e s m args below meth c ls cx hr hk hP hl
  have hl : lv_has ls 2 [(0, .ref (ad 0 0)), (1, .int p1)] := hl
  rw [f11_visitsWith] at hF
  refine r_aload_n cx dX11_visitsWith_0 (lv_at hl 0 rfl) ?_
  refine r_iload_n cx dX11_visitsWith_1 (lv_at hl 1 rfl) ?_
  obtain ⟨v1, s2, hc, hF⟩ := bnx_nt hF
  refine r_callVv cx hP (As := [.int p1]) (z11_requirePass l Γ ad A p1 σ v1 s2 hc) mw11_151 ⟨Nat.le_of_ble_eq_true rfl, Nat.le_of_ble_eq_true rfl⟩ (dXr (by decide)) rfl rfl rfl (Nat.le_of_ble_eq_true rfl) hl.1 ⟨Nat.zero_le _, Nat.zero_le _⟩ dX11_visitsWith_2 (fun H locs hP => ?_)
  refine r_aload_n cx dX11_visitsWith_5 (lv_at hl 0 rfl) ?_
  refine gf11_12 cx hP dX11_visitsWith_6 ?_
  refine gf11_79 cx hP (by decide : 8 < 11) dX11_visitsWith_9 ?_
  refine gf11_280 cx hP (by decide : 8 < 11) dX11_visitsWith_12 ?_
  refine r_iload_n cx dX11_visitsWith_15 (lv_at hl 1 rfl) ?_
  refine r_iald cx hP (dXg (by decide : 8 < 11) (by decide)) rfl dX11_visitsWith_16 hF (fun v3 hF => ?_)
  exact r_iret cx hP hr hk dX11_visitsWith_17 (nt1 hF)
set_option maxHeartbeats 4000000 in
set_option maxRecDepth 100000 in
theorem z11_requireCard (l : Launch) (Γ : Wc) (ad : Nat → Nat → Nat) (A : Nat → Prop) (p1 : Int32) (σ : Sig) (r : Int32) (σ1 : Sig) (hF : f11_requireCard p1 σ = some (0, r, σ1)) : MV l SX Γ ad A yX11_requireCard cX11_requireCard 2 6 90 [.ref (ad 0 0), .int p1] σ σ1 := by
  refine MV.of (by decide) (Nat.le_of_ble_eq_true rfl) ?_
  intro p e s m args below meth c ls cx hr hk hP hl
  have hl : lv_has ls 2 [(0, .ref (ad 0 0)), (1, .int p1)] := hl
  rw [f11_requireCard] at hF
  refine r_aload_n cx dX11_requireCard_0 (lv_at hl 0 rfl) ?_
  refine gf11_12 cx hP dX11_requireCard_1 ?_
  refine gf11_287 cx hP (by decide : 8 < 11) dX11_requireCard_4 ?_
  refine r_iload_n cx dX11_requireCard_7 (lv_at hl 1 rfl) ?_
  obtain ⟨v1, hc, hF⟩ := bnd_some hF
  refine r_callVi cx hP (As := [.int p1]) (w2_has l Γ ad A 8 (by decide : 8 < 11) p1 σ v1 hc) mw11_375 ⟨Nat.le_of_ble_eq_true rfl, Nat.le_of_ble_eq_true rfl⟩ (dXg (by decide : 8 < 11) (by decide)) rfl rfl rfl (Nat.le_of_ble_eq_true rfl) hl.1 ⟨Nat.zero_le _, Nat.zero_le _⟩ dX11_requireCard_8 (fun H locs hP => ?_)
  refine r_if_ne cx 25 dX11_requireCard_11 (by decide) hF (fun hF => ?_) (fun hF => ?_)
  · exact r_vret cx hP hr hk dX11_requireCard_25 (nt2 hF)
  · exact nt0 (by decide) hF
set_option maxHeartbeats 4000000 in
set_option maxRecDepth 100000 in
theorem z11_passOf (l : Launch) (Γ : Wc) (ad : Nat → Nat → Nat) (A : Nat → Prop) (p1 : Int32) (σ : Sig) (r : Int32) (σ1 : Sig) (hF : f11_passOf p1 σ = some (0, r, σ1)) : MI l SX Γ ad A yX11_passOf cX11_passOf 2 (some .int) 7 111 [.ref (ad 0 0), .int p1] σ r σ1 := by
  refine MI.of (by decide) (Nat.le_of_ble_eq_true rfl) ?_
  intro p e s m args below meth c ls cx hr hk hP hl
  have hl : lv_has ls 2 [(0, .ref (ad 0 0)), (1, .int p1)] := hl
  rw [f11_passOf] at hF
  refine r_aload_n cx dX11_passOf_0 (lv_at hl 0 rfl) ?_
  refine r_iload_n cx dX11_passOf_1 (lv_at hl 1 rfl) ?_
  obtain ⟨v1, s2, hc, hF⟩ := bnx_nt hF
  refine r_callVv cx hP (As := [.int p1]) (z11_requireCard l Γ ad A p1 σ v1 s2 hc) mw11_191 ⟨Nat.le_of_ble_eq_true rfl, Nat.le_of_ble_eq_true rfl⟩ (dXr (by decide)) rfl rfl rfl (Nat.le_of_ble_eq_true rfl) hl.1 ⟨Nat.zero_le _, Nat.zero_le _⟩ dX11_passOf_2 (fun H locs hP => ?_)
  refine r_aload_n cx dX11_passOf_5 (lv_at hl 0 rfl) ?_
  refine gf11_12 cx hP dX11_passOf_6 ?_
  refine gf11_287 cx hP (by decide : 8 < 11) dX11_passOf_9 ?_
  refine gf11_294 cx hP (by decide : 8 < 11) dX11_passOf_12 ?_
  refine r_iload_n cx dX11_passOf_15 (lv_at hl 1 rfl) ?_
  refine r_iald cx hP (dXg (by decide : 8 < 11) (by decide)) rfl dX11_passOf_16 hF (fun v3 hF => ?_)
  exact r_iret cx hP hr hk dX11_passOf_17 (nt1 hF)
set_option maxHeartbeats 4000000 in
set_option maxRecDepth 100000 in
theorem z11_isBlocked (l : Launch) (Γ : Wc) (ad : Nat → Nat → Nat) (A : Nat → Prop) (p1 : Int32) (σ : Sig) (r : Int32) (σ1 : Sig) (hF : f11_isBlocked p1 σ = some (0, r, σ1)) : MI l SX Γ ad A yX11_isBlocked cX11_isBlocked 2 (some .boolean) 7 111 [.ref (ad 0 0), .int p1] σ r σ1 := by
  refine MI.of (by decide) (Nat.le_of_ble_eq_true rfl) ?_
  intro p e s m args below meth c ls cx hr hk hP hl
  have hl : lv_has ls 2 [(0, .ref (ad 0 0)), (1, .int p1)] := hl
  rw [f11_isBlocked] at hF
  refine r_aload_n cx dX11_isBlocked_0 (lv_at hl 0 rfl) ?_
  refine r_iload_n cx dX11_isBlocked_1 (lv_at hl 1 rfl) ?_
  obtain ⟨v1, s2, hc, hF⟩ := bnx_nt hF
  refine r_callVv cx hP (As := [.int p1]) (z11_requireCard l Γ ad A p1 σ v1 s2 hc) mw11_191 ⟨Nat.le_of_ble_eq_true rfl, Nat.le_of_ble_eq_true rfl⟩ (dXr (by decide)) rfl rfl rfl (Nat.le_of_ble_eq_true rfl) hl.1 ⟨Nat.zero_le _, Nat.zero_le _⟩ dX11_isBlocked_2 (fun H locs hP => ?_)
  refine r_aload_n cx dX11_isBlocked_5 (lv_at hl 0 rfl) ?_
  refine gf11_12 cx hP dX11_isBlocked_6 ?_
  refine gf11_287 cx hP (by decide : 8 < 11) dX11_isBlocked_9 ?_
  refine gf11_297 cx hP (by decide : 8 < 11) dX11_isBlocked_12 ?_
  refine r_iload_n cx dX11_isBlocked_15 (lv_at hl 1 rfl) ?_
  refine r_zald cx hP (dXg (by decide : 8 < 11) (by decide)) rfl dX11_isBlocked_16 hF (fun v3 hF => ?_)
  exact r_zret cx hP hr hk (nar_gz (gz_some hF).1) dX11_isBlocked_17 (nt1 (gz_some hF).2)
set_option maxHeartbeats 4000000 in
set_option maxRecDepth 100000 in
theorem z11_cardOf (l : Launch) (Γ : Wc) (ad : Nat → Nat → Nat) (A : Nat → Prop) (p1 : Int32) (σ : Sig) (r : Int32) (σ1 : Sig) (hF : f11_cardOf p1 σ = some (0, r, σ1)) : MI l SX Γ ad A yX11_cardOf cX11_cardOf 2 (some .int) 7 111 [.ref (ad 0 0), .int p1] σ r σ1 := by
  refine MI.of (by decide) (Nat.le_of_ble_eq_true rfl) ?_
  intro p e s m args below meth c ls cx hr hk hP hl
  have hl : lv_has ls 2 [(0, .ref (ad 0 0)), (1, .int p1)] := hl
  rw [f11_cardOf] at hF
  refine r_aload_n cx dX11_cardOf_0 (lv_at hl 0 rfl) ?_
  refine r_iload_n cx dX11_cardOf_1 (lv_at hl 1 rfl) ?_
  obtain ⟨v1, s2, hc, hF⟩ := bnx_nt hF
  refine r_callVv cx hP (As := [.int p1]) (z11_requirePass l Γ ad A p1 σ v1 s2 hc) mw11_151 ⟨Nat.le_of_ble_eq_true rfl, Nat.le_of_ble_eq_true rfl⟩ (dXr (by decide)) rfl rfl rfl (Nat.le_of_ble_eq_true rfl) hl.1 ⟨Nat.zero_le _, Nat.zero_le _⟩ dX11_cardOf_2 (fun H locs hP => ?_)
  refine r_aload_n cx dX11_cardOf_5 (lv_at hl 0 rfl) ?_
  refine gf11_12 cx hP dX11_cardOf_6 ?_
  refine gf11_79 cx hP (by decide : 8 < 11) dX11_cardOf_9 ?_
  refine gf11_274 cx hP (by decide : 8 < 11) dX11_cardOf_12 ?_
  refine r_iload_n cx dX11_cardOf_15 (lv_at hl 1 rfl) ?_
  refine r_iald cx hP (dXg (by decide : 8 < 11) (by decide)) rfl dX11_cardOf_16 hF (fun v3 hF => ?_)
  exact r_iret cx hP hr hk dX11_cardOf_17 (nt1 hF)
set_option maxHeartbeats 4000000 in
set_option maxRecDepth 100000 in
theorem z11_isReturned (l : Launch) (Γ : Wc) (ad : Nat → Nat → Nat) (A : Nat → Prop) (p1 : Int32) (σ : Sig) (r : Int32) (σ1 : Sig) (hF : f11_isReturned p1 σ = some (0, r, σ1)) : MI l SX Γ ad A yX11_isReturned cX11_isReturned 2 (some .boolean) 7 111 [.ref (ad 0 0), .int p1] σ r σ1 := by
  refine MI.of (by decide) (Nat.le_of_ble_eq_true rfl) ?_
  intro p e s m args below meth c ls cx hr hk hP hl
  have hl : lv_has ls 2 [(0, .ref (ad 0 0)), (1, .int p1)] := hl
  rw [f11_isReturned] at hF
  refine r_aload_n cx dX11_isReturned_0 (lv_at hl 0 rfl) ?_
  refine r_iload_n cx dX11_isReturned_1 (lv_at hl 1 rfl) ?_
  obtain ⟨v1, s2, hc, hF⟩ := bnx_nt hF
  refine r_callVv cx hP (As := [.int p1]) (z11_requirePass l Γ ad A p1 σ v1 s2 hc) mw11_151 ⟨Nat.le_of_ble_eq_true rfl, Nat.le_of_ble_eq_true rfl⟩ (dXr (by decide)) rfl rfl rfl (Nat.le_of_ble_eq_true rfl) hl.1 ⟨Nat.zero_le _, Nat.zero_le _⟩ dX11_isReturned_2 (fun H locs hP => ?_)
  refine r_aload_n cx dX11_isReturned_5 (lv_at hl 0 rfl) ?_
  refine gf11_12 cx hP dX11_isReturned_6 ?_
  refine gf11_79 cx hP (by decide : 8 < 11) dX11_isReturned_9 ?_
  refine gf11_184 cx hP (by decide : 8 < 11) dX11_isReturned_12 ?_
  refine r_iload_n cx dX11_isReturned_15 (lv_at hl 1 rfl) ?_
  refine r_zald cx hP (dXg (by decide : 8 < 11) (by decide)) rfl dX11_isReturned_16 hF (fun v3 hF => ?_)
  exact r_zret cx hP hr hk (nar_gz (gz_some hF).1) dX11_isReturned_17 (nt1 (gz_some hF).2)
set_option maxHeartbeats 4000000 in
set_option maxRecDepth 100000 in
theorem z11_refundOf (l : Launch) (Γ : Wc) (ad : Nat → Nat → Nat) (A : Nat → Prop) (p1 : Int32) (σ : Sig) (r : Int32) (σ1 : Sig) (hF : f11_refundOf p1 σ = some (0, r, σ1)) : MI l SX Γ ad A yX11_refundOf cX11_refundOf 2 (some .int) 7 111 [.ref (ad 0 0), .int p1] σ r σ1 := by
  refine MI.of (by decide) (Nat.le_of_ble_eq_true rfl) ?_
  intro p e s m args below meth c ls cx hr hk hP hl
  have hl : lv_has ls 2 [(0, .ref (ad 0 0)), (1, .int p1)] := hl
  rw [f11_refundOf] at hF
  refine r_aload_n cx dX11_refundOf_0 (lv_at hl 0 rfl) ?_
  refine r_iload_n cx dX11_refundOf_1 (lv_at hl 1 rfl) ?_
  obtain ⟨v1, s2, hc, hF⟩ := bnx_nt hF
  refine r_callVv cx hP (As := [.int p1]) (z11_requirePass l Γ ad A p1 σ v1 s2 hc) mw11_151 ⟨Nat.le_of_ble_eq_true rfl, Nat.le_of_ble_eq_true rfl⟩ (dXr (by decide)) rfl rfl rfl (Nat.le_of_ble_eq_true rfl) hl.1 ⟨Nat.zero_le _, Nat.zero_le _⟩ dX11_refundOf_2 (fun H locs hP => ?_)
  refine r_aload_n cx dX11_refundOf_5 (lv_at hl 0 rfl) ?_
  refine gf11_12 cx hP dX11_refundOf_6 ?_
  refine r_iload_n cx dX11_refundOf_9 (lv_at hl 1 rfl) ?_
  obtain ⟨v3, hc, hF⟩ := bnd_some hF
  refine r_callVi cx hP (As := [.int p1]) (w4_refundNow l Γ ad A 8 (by decide : 8 < 11) p1 s2 v3 hc) mw11_281 ⟨Nat.le_of_ble_eq_true rfl, Nat.le_of_ble_eq_true rfl⟩ (dXg (by decide : 8 < 11) (by decide)) rfl rfl rfl (Nat.le_of_ble_eq_true rfl) hl.1 ⟨Nat.zero_le _, Nat.zero_le _⟩ dX11_refundOf_10 (fun H locs hP => ?_)
  exact r_iret cx hP hr hk dX11_refundOf_13 (nt1 hF)
set_option maxHeartbeats 4000000 in
set_option maxRecDepth 100000 in
theorem z11_lastDay (l : Launch) (Γ : Wc) (ad : Nat → Nat → Nat) (A : Nat → Prop) (p1 : Int32) (σ : Sig) (r : Int32) (σ1 : Sig) (hF : f11_lastDay p1 σ = some (0, r, σ1)) : MI l SX Γ ad A yX11_lastDay cX11_lastDay 2 (some .int) 7 111 [.ref (ad 0 0), .int p1] σ r σ1 := by
  refine MI.of (by decide) (Nat.le_of_ble_eq_true rfl) ?_
  intro p e s m args below meth c ls cx hr hk hP hl
  have hl : lv_has ls 2 [(0, .ref (ad 0 0)), (1, .int p1)] := hl
  rw [f11_lastDay] at hF
  refine r_aload_n cx dX11_lastDay_0 (lv_at hl 0 rfl) ?_
  refine r_iload_n cx dX11_lastDay_1 (lv_at hl 1 rfl) ?_
  obtain ⟨v1, s2, hc, hF⟩ := bnx_nt hF
  refine r_callVv cx hP (As := [.int p1]) (z11_requirePass l Γ ad A p1 σ v1 s2 hc) mw11_151 ⟨Nat.le_of_ble_eq_true rfl, Nat.le_of_ble_eq_true rfl⟩ (dXr (by decide)) rfl rfl rfl (Nat.le_of_ble_eq_true rfl) hl.1 ⟨Nat.zero_le _, Nat.zero_le _⟩ dX11_lastDay_2 (fun H locs hP => ?_)
  refine r_aload_n cx dX11_lastDay_5 (lv_at hl 0 rfl) ?_
  refine gf11_12 cx hP dX11_lastDay_6 ?_
  refine gf11_79 cx hP (by decide : 8 < 11) dX11_lastDay_9 ?_
  refine r_iload_n cx dX11_lastDay_12 (lv_at hl 1 rfl) ?_
  obtain ⟨v3, hc, hF⟩ := bnd_some hF
  refine r_callVi cx hP (As := [.int p1]) (w7_finalDay l Γ ad A 8 (by decide : 8 < 11) p1 s2 v3 hc) mw11_270 ⟨Nat.le_of_ble_eq_true rfl, Nat.le_of_ble_eq_true rfl⟩ (dXg (by decide : 8 < 11) (by decide)) rfl rfl rfl (Nat.le_of_ble_eq_true rfl) hl.1 ⟨Nat.zero_le _, Nat.zero_le _⟩ dX11_lastDay_13 (fun H locs hP => ?_)
  exact r_iret cx hP hr hk dX11_lastDay_16 (nt1 hF)
set_option maxHeartbeats 4000000 in
set_option maxRecDepth 100000 in
theorem z11_firstDay (l : Launch) (Γ : Wc) (ad : Nat → Nat → Nat) (A : Nat → Prop) (p1 : Int32) (σ : Sig) (r : Int32) (σ1 : Sig) (hF : f11_firstDay p1 σ = some (0, r, σ1)) : MI l SX Γ ad A yX11_firstDay cX11_firstDay 2 (some .int) 7 111 [.ref (ad 0 0), .int p1] σ r σ1 := by
  refine MI.of (by decide) (Nat.le_of_ble_eq_true rfl) ?_
  intro p e s m args below meth c ls cx hr hk hP hl
  have hl : lv_has ls 2 [(0, .ref (ad 0 0)), (1, .int p1)] := hl
  rw [f11_firstDay] at hF
  refine r_aload_n cx dX11_firstDay_0 (lv_at hl 0 rfl) ?_
  refine r_iload_n cx dX11_firstDay_1 (lv_at hl 1 rfl) ?_
  obtain ⟨v1, s2, hc, hF⟩ := bnx_nt hF
  refine r_callVv cx hP (As := [.int p1]) (z11_requirePass l Γ ad A p1 σ v1 s2 hc) mw11_151 ⟨Nat.le_of_ble_eq_true rfl, Nat.le_of_ble_eq_true rfl⟩ (dXr (by decide)) rfl rfl rfl (Nat.le_of_ble_eq_true rfl) hl.1 ⟨Nat.zero_le _, Nat.zero_le _⟩ dX11_firstDay_2 (fun H locs hP => ?_)
  refine r_aload_n cx dX11_firstDay_5 (lv_at hl 0 rfl) ?_
  refine gf11_12 cx hP dX11_firstDay_6 ?_
  refine gf11_79 cx hP (by decide : 8 < 11) dX11_firstDay_9 ?_
  refine gf11_267 cx hP (by decide : 8 < 11) dX11_firstDay_12 ?_
  refine r_iload_n cx dX11_firstDay_15 (lv_at hl 1 rfl) ?_
  refine r_iald cx hP (dXg (by decide : 8 < 11) (by decide)) rfl dX11_firstDay_16 hF (fun v3 hF => ?_)
  exact r_iret cx hP hr hk dX11_firstDay_17 (nt1 hF)
set_option maxHeartbeats 4000000 in
set_option maxRecDepth 100000 in
theorem z11_usedDays (l : Launch) (Γ : Wc) (ad : Nat → Nat → Nat) (A : Nat → Prop) (p1 : Int32) (σ : Sig) (r : Int32) (σ1 : Sig) (hF : f11_usedDays p1 σ = some (0, r, σ1)) : MI l SX Γ ad A yX11_usedDays cX11_usedDays 2 (some .int) 7 111 [.ref (ad 0 0), .int p1] σ r σ1 := by
  refine MI.of (by decide) (Nat.le_of_ble_eq_true rfl) ?_
  intro p e s m args below meth c ls cx hr hk hP hl
  have hl : lv_has ls 2 [(0, .ref (ad 0 0)), (1, .int p1)] := hl
  rw [f11_usedDays] at hF
  refine r_aload_n cx dX11_usedDays_0 (lv_at hl 0 rfl) ?_
  refine r_iload_n cx dX11_usedDays_1 (lv_at hl 1 rfl) ?_
  obtain ⟨v1, s2, hc, hF⟩ := bnx_nt hF
  refine r_callVv cx hP (As := [.int p1]) (z11_requirePass l Γ ad A p1 σ v1 s2 hc) mw11_151 ⟨Nat.le_of_ble_eq_true rfl, Nat.le_of_ble_eq_true rfl⟩ (dXr (by decide)) rfl rfl rfl (Nat.le_of_ble_eq_true rfl) hl.1 ⟨Nat.zero_le _, Nat.zero_le _⟩ dX11_usedDays_2 (fun H locs hP => ?_)
  refine r_aload_n cx dX11_usedDays_5 (lv_at hl 0 rfl) ?_
  refine gf11_12 cx hP dX11_usedDays_6 ?_
  refine gf11_79 cx hP (by decide : 8 < 11) dX11_usedDays_9 ?_
  refine r_iload_n cx dX11_usedDays_12 (lv_at hl 1 rfl) ?_
  obtain ⟨v3, hc, hF⟩ := bnd_some hF
  refine r_callVi cx hP (As := [.int p1]) (w7_countUsedDays l Γ ad A 8 (by decide : 8 < 11) p1 s2 v3 hc) mw11_277 ⟨Nat.le_of_ble_eq_true rfl, Nat.le_of_ble_eq_true rfl⟩ (dXg (by decide : 8 < 11) (by decide)) rfl rfl rfl (Nat.le_of_ble_eq_true rfl) hl.1 ⟨Nat.zero_le _, Nat.zero_le _⟩ dX11_usedDays_13 (fun H locs hP => ?_)
  exact r_iret cx hP hr hk dX11_usedDays_16 (nt1 hF)
set_option maxHeartbeats 4000000 in
set_option maxRecDepth 100000 in
theorem z11_owed (l : Launch) (Γ : Wc) (ad : Nat → Nat → Nat) (A : Nat → Prop) (p1 : Int32) (σ : Sig) (r : Int32) (σ1 : Sig) (hF : f11_owed p1 σ = some (0, r, σ1)) : MI l SX Γ ad A yX11_owed cX11_owed 2 (some .int) 7 111 [.ref (ad 0 0), .int p1] σ r σ1 := by
  refine MI.of (by decide) (Nat.le_of_ble_eq_true rfl) ?_
  intro p e s m args below meth c ls cx hr hk hP hl
  have hl : lv_has ls 2 [(0, .ref (ad 0 0)), (1, .int p1)] := hl
  rw [f11_owed] at hF
  refine r_aload_n cx dX11_owed_0 (lv_at hl 0 rfl) ?_
  refine r_iload_n cx dX11_owed_1 (lv_at hl 1 rfl) ?_
  obtain ⟨v1, s2, hc, hF⟩ := bnx_nt hF
  refine r_callVv cx hP (As := [.int p1]) (z11_requirePass l Γ ad A p1 σ v1 s2 hc) mw11_151 ⟨Nat.le_of_ble_eq_true rfl, Nat.le_of_ble_eq_true rfl⟩ (dXr (by decide)) rfl rfl rfl (Nat.le_of_ble_eq_true rfl) hl.1 ⟨Nat.zero_le _, Nat.zero_le _⟩ dX11_owed_2 (fun H locs hP => ?_)
  refine r_aload_n cx dX11_owed_5 (lv_at hl 0 rfl) ?_
  refine gf11_12 cx hP dX11_owed_6 ?_
  refine gf11_79 cx hP (by decide : 8 < 11) dX11_owed_9 ?_
  refine gf11_207 cx hP (by decide : 8 < 11) dX11_owed_12 ?_
  refine r_iload_n cx dX11_owed_15 (lv_at hl 1 rfl) ?_
  refine r_iald cx hP (dXg (by decide : 8 < 11) (by decide)) rfl dX11_owed_16 hF (fun v3 hF => ?_)
  exact r_iret cx hP hr hk dX11_owed_17 (nt1 hF)
set_option maxHeartbeats 4000000 in
set_option maxRecDepth 100000 in
theorem z11_priceOf (l : Launch) (Γ : Wc) (ad : Nat → Nat → Nat) (A : Nat → Prop) (p1 : Int32) (σ : Sig) (r : Int32) (σ1 : Sig) (hF : f11_priceOf p1 σ = some (0, r, σ1)) : MI l SX Γ ad A yX11_priceOf cX11_priceOf 2 (some .int) 7 111 [.ref (ad 0 0), .int p1] σ r σ1 := by
  refine MI.of (by decide) (Nat.le_of_ble_eq_true rfl) ?_
  intro p e s m args below meth c ls cx hr hk hP hl
  have hl : lv_has ls 2 [(0, .ref (ad 0 0)), (1, .int p1)] := hl
  rw [f11_priceOf] at hF
  refine r_aload_n cx dX11_priceOf_0 (lv_at hl 0 rfl) ?_
  refine r_iload_n cx dX11_priceOf_1 (lv_at hl 1 rfl) ?_
  obtain ⟨v1, s2, hc, hF⟩ := bnx_nt hF
  refine r_callVv cx hP (As := [.int p1]) (z11_requirePass l Γ ad A p1 σ v1 s2 hc) mw11_151 ⟨Nat.le_of_ble_eq_true rfl, Nat.le_of_ble_eq_true rfl⟩ (dXr (by decide)) rfl rfl rfl (Nat.le_of_ble_eq_true rfl) hl.1 ⟨Nat.zero_le _, Nat.zero_le _⟩ dX11_priceOf_2 (fun H locs hP => ?_)
  refine r_aload_n cx dX11_priceOf_5 (lv_at hl 0 rfl) ?_
  refine gf11_12 cx hP dX11_priceOf_6 ?_
  refine gf11_79 cx hP (by decide : 8 < 11) dX11_priceOf_9 ?_
  refine gf11_273 cx hP (by decide : 8 < 11) dX11_priceOf_12 ?_
  refine r_iload_n cx dX11_priceOf_15 (lv_at hl 1 rfl) ?_
  refine r_iald cx hP (dXg (by decide : 8 < 11) (by decide)) rfl dX11_priceOf_16 hF (fun v3 hF => ?_)
  exact r_iret cx hP hr hk dX11_priceOf_17 (nt1 hF)
set_option maxHeartbeats 4000000 in
set_option maxRecDepth 100000 in
theorem z11_ticksUntilReady (l : Launch) (Γ : Wc) (ad : Nat → Nat → Nat) (A : Nat → Prop) (p1 : Int32) (σ : Sig) (r : Int32) (σ1 : Sig) (hF : f11_ticksUntilReady p1 σ = some (0, r, σ1)) : MI l SX Γ ad A yX11_ticksUntilReady cX11_ticksUntilReady 2 (some .int) 7 111 [.ref (ad 0 0), .int p1] σ r σ1 := by
  refine MI.of (by decide) (Nat.le_of_ble_eq_true rfl) ?_
  intro p e s m args below meth c ls cx hr hk hP hl
  have hl : lv_has ls 2 [(0, .ref (ad 0 0)), (1, .int p1)] := hl
  rw [f11_ticksUntilReady] at hF
  refine r_aload_n cx dX11_ticksUntilReady_0 (lv_at hl 0 rfl) ?_
  refine r_iload_n cx dX11_ticksUntilReady_1 (lv_at hl 1 rfl) ?_
  obtain ⟨v1, s2, hc, hF⟩ := bnx_nt hF
  refine r_callVv cx hP (As := [.int p1]) (z11_requirePass l Γ ad A p1 σ v1 s2 hc) mw11_151 ⟨Nat.le_of_ble_eq_true rfl, Nat.le_of_ble_eq_true rfl⟩ (dXr (by decide)) rfl rfl rfl (Nat.le_of_ble_eq_true rfl) hl.1 ⟨Nat.zero_le _, Nat.zero_le _⟩ dX11_ticksUntilReady_2 (fun H locs hP => ?_)
  refine r_aload_n cx dX11_ticksUntilReady_5 (lv_at hl 0 rfl) ?_
  refine gf11_12 cx hP dX11_ticksUntilReady_6 ?_
  refine r_iload_n cx dX11_ticksUntilReady_9 (lv_at hl 1 rfl) ?_
  obtain ⟨v3, hc, hF⟩ := bnd_some hF
  refine r_callVi cx hP (As := [.int p1]) (w4_waitForNextVisit l Γ ad A 8 (by decide : 8 < 11) p1 s2 v3 hc) mw11_284 ⟨Nat.le_of_ble_eq_true rfl, Nat.le_of_ble_eq_true rfl⟩ (dXg (by decide : 8 < 11) (by decide)) rfl rfl rfl (Nat.le_of_ble_eq_true rfl) hl.1 ⟨Nat.zero_le _, Nat.zero_le _⟩ dX11_ticksUntilReady_10 (fun H locs hP => ?_)
  exact r_iret cx hP hr hk dX11_ticksUntilReady_13 (nt1 hF)
set_option maxHeartbeats 4000000 in
set_option maxRecDepth 100000 in
theorem z11_requireBed (l : Launch) (Γ : Wc) (ad : Nat → Nat → Nat) (A : Nat → Prop) (p1 : Int32) (σ : Sig) (r : Int32) (σ1 : Sig) (hF : f11_requireBed p1 σ = some (0, r, σ1)) : MV l SX Γ ad A yX11_requireBed cX11_requireBed 2 6 90 [.ref (ad 0 0), .int p1] σ σ1 := by
  refine MV.of (by decide) (Nat.le_of_ble_eq_true rfl) ?_
  intro p e s m args below meth c ls cx hr hk hP hl
  have hl : lv_has ls 2 [(0, .ref (ad 0 0)), (1, .int p1)] := hl
  rw [f11_requireBed] at hF
  refine r_aload_n cx dX11_requireBed_0 (lv_at hl 0 rfl) ?_
  refine gf11_12 cx hP dX11_requireBed_1 ?_
  refine gf11_104 cx hP (by decide : 8 < 11) dX11_requireBed_4 ?_
  refine r_iload_n cx dX11_requireBed_7 (lv_at hl 1 rfl) ?_
  obtain ⟨v1, hc, hF⟩ := bnd_some hF
  refine r_callVi cx hP (As := [.int p1]) (w0_has l Γ ad A 8 (by decide : 8 < 11) p1 σ v1 hc) mw11_369 ⟨Nat.le_of_ble_eq_true rfl, Nat.le_of_ble_eq_true rfl⟩ (dXg (by decide : 8 < 11) (by decide)) rfl rfl rfl (Nat.le_of_ble_eq_true rfl) hl.1 ⟨Nat.zero_le _, Nat.zero_le _⟩ dX11_requireBed_8 (fun H locs hP => ?_)
  refine r_if_ne cx 25 dX11_requireBed_11 (by decide) hF (fun hF => ?_) (fun hF => ?_)
  · exact r_vret cx hP hr hk dX11_requireBed_25 (nt2 hF)
  · exact nt0 (by decide) hF
set_option maxHeartbeats 4000000 in
set_option maxRecDepth 100000 in
theorem z11_visitsTo (l : Launch) (Γ : Wc) (ad : Nat → Nat → Nat) (A : Nat → Prop) (p1 : Int32) (σ : Sig) (r : Int32) (σ1 : Sig) (hF : f11_visitsTo p1 σ = some (0, r, σ1)) : MI l SX Γ ad A yX11_visitsTo cX11_visitsTo 2 (some .int) 7 111 [.ref (ad 0 0), .int p1] σ r σ1 := by
  refine MI.of (by decide) (Nat.le_of_ble_eq_true rfl) ?_
  intro p e s m args below meth c ls cx hr hk hP hl
  have hl : lv_has ls 2 [(0, .ref (ad 0 0)), (1, .int p1)] := hl
  rw [f11_visitsTo] at hF
  refine r_aload_n cx dX11_visitsTo_0 (lv_at hl 0 rfl) ?_
  refine r_iload_n cx dX11_visitsTo_1 (lv_at hl 1 rfl) ?_
  obtain ⟨v1, s2, hc, hF⟩ := bnx_nt hF
  refine r_callVv cx hP (As := [.int p1]) (z11_requireBed l Γ ad A p1 σ v1 s2 hc) mw11_194 ⟨Nat.le_of_ble_eq_true rfl, Nat.le_of_ble_eq_true rfl⟩ (dXr (by decide)) rfl rfl rfl (Nat.le_of_ble_eq_true rfl) hl.1 ⟨Nat.zero_le _, Nat.zero_le _⟩ dX11_visitsTo_2 (fun H locs hP => ?_)
  refine r_aload_n cx dX11_visitsTo_5 (lv_at hl 0 rfl) ?_
  refine gf11_12 cx hP dX11_visitsTo_6 ?_
  refine gf11_104 cx hP (by decide : 8 < 11) dX11_visitsTo_9 ?_
  refine gf11_264 cx hP (by decide : 8 < 11) dX11_visitsTo_12 ?_
  refine r_iload_n cx dX11_visitsTo_15 (lv_at hl 1 rfl) ?_
  refine r_iald cx hP (dXg (by decide : 8 < 11) (by decide)) rfl dX11_visitsTo_16 hF (fun v3 hF => ?_)
  exact r_iret cx hP hr hk dX11_visitsTo_17 (nt1 hF)
set_option maxHeartbeats 4000000 in
set_option maxRecDepth 100000 in
theorem z11_blooms (l : Launch) (Γ : Wc) (ad : Nat → Nat → Nat) (A : Nat → Prop) (p1 : Int32) (σ : Sig) (r : Int32) (σ1 : Sig) (hF : f11_blooms p1 σ = some (0, r, σ1)) : MI l SX Γ ad A yX11_blooms cX11_blooms 2 (some .int) 7 111 [.ref (ad 0 0), .int p1] σ r σ1 := by
  refine MI.of (by decide) (Nat.le_of_ble_eq_true rfl) ?_
  intro p e s m args below meth c ls cx hr hk hP hl
  have hl : lv_has ls 2 [(0, .ref (ad 0 0)), (1, .int p1)] := hl
  rw [f11_blooms] at hF
  refine r_aload_n cx dX11_blooms_0 (lv_at hl 0 rfl) ?_
  refine r_iload_n cx dX11_blooms_1 (lv_at hl 1 rfl) ?_
  obtain ⟨v1, s2, hc, hF⟩ := bnx_nt hF
  refine r_callVv cx hP (As := [.int p1]) (z11_requireBed l Γ ad A p1 σ v1 s2 hc) mw11_194 ⟨Nat.le_of_ble_eq_true rfl, Nat.le_of_ble_eq_true rfl⟩ (dXr (by decide)) rfl rfl rfl (Nat.le_of_ble_eq_true rfl) hl.1 ⟨Nat.zero_le _, Nat.zero_le _⟩ dX11_blooms_2 (fun H locs hP => ?_)
  refine r_aload_n cx dX11_blooms_5 (lv_at hl 0 rfl) ?_
  refine gf11_12 cx hP dX11_blooms_6 ?_
  refine gf11_104 cx hP (by decide : 8 < 11) dX11_blooms_9 ?_
  refine gf11_258 cx hP (by decide : 8 < 11) dX11_blooms_12 ?_
  refine r_iload_n cx dX11_blooms_15 (lv_at hl 1 rfl) ?_
  refine r_iald cx hP (dXg (by decide : 8 < 11) (by decide)) rfl dX11_blooms_16 hF (fun v3 hF => ?_)
  exact r_iret cx hP hr hk dX11_blooms_17 (nt1 hF)
set_option maxHeartbeats 4000000 in
set_option maxRecDepth 100000 in
theorem z11_placesLeft (l : Launch) (Γ : Wc) (ad : Nat → Nat → Nat) (A : Nat → Prop) (p1 : Int32) (σ : Sig) (r : Int32) (σ1 : Sig) (hF : f11_placesLeft p1 σ = some (0, r, σ1)) : MI l SX Γ ad A yX11_placesLeft cX11_placesLeft 2 (some .int) 7 111 [.ref (ad 0 0), .int p1] σ r σ1 := by
  refine MI.of (by decide) (Nat.le_of_ble_eq_true rfl) ?_
  intro p e s m args below meth c ls cx hr hk hP hl
  have hl : lv_has ls 2 [(0, .ref (ad 0 0)), (1, .int p1)] := hl
  rw [f11_placesLeft] at hF
  refine r_aload_n cx dX11_placesLeft_0 (lv_at hl 0 rfl) ?_
  refine r_iload_n cx dX11_placesLeft_1 (lv_at hl 1 rfl) ?_
  obtain ⟨v1, s2, hc, hF⟩ := bnx_nt hF
  refine r_callVv cx hP (As := [.int p1]) (z11_requireBed l Γ ad A p1 σ v1 s2 hc) mw11_194 ⟨Nat.le_of_ble_eq_true rfl, Nat.le_of_ble_eq_true rfl⟩ (dXr (by decide)) rfl rfl rfl (Nat.le_of_ble_eq_true rfl) hl.1 ⟨Nat.zero_le _, Nat.zero_le _⟩ dX11_placesLeft_2 (fun H locs hP => ?_)
  refine r_aload_n cx dX11_placesLeft_5 (lv_at hl 0 rfl) ?_
  refine gf11_12 cx hP dX11_placesLeft_6 ?_
  refine gf11_104 cx hP (by decide : 8 < 11) dX11_placesLeft_9 ?_
  refine r_iload_n cx dX11_placesLeft_12 (lv_at hl 1 rfl) ?_
  obtain ⟨v3, hc, hF⟩ := bnd_some hF
  refine r_callVi cx hP (As := [.int p1]) (w0_freePlaces l Γ ad A 8 (by decide : 8 < 11) p1 s2 v3 hc) mw11_261 ⟨Nat.le_of_ble_eq_true rfl, Nat.le_of_ble_eq_true rfl⟩ (dXg (by decide : 8 < 11) (by decide)) rfl rfl rfl (Nat.le_of_ble_eq_true rfl) hl.1 ⟨Nat.zero_le _, Nat.zero_le _⟩ dX11_placesLeft_13 (fun H locs hP => ?_)
  exact r_iret cx hP hr hk dX11_placesLeft_16 (nt1 hF)
set_option maxHeartbeats 4000000 in
set_option maxRecDepth 100000 in
theorem z11_whyRefused (l : Launch) (Γ : Wc) (ad : Nat → Nat → Nat) (A : Nat → Prop) (p1 : Int32) (p2 : Int32) (σ : Sig) (r : Int32) (σ1 : Sig) (hF : f11_whyRefused p1 p2 σ = some (0, r, σ1)) : MI l SX Γ ad A yX11_whyRefused cX11_whyRefused 3 (some .int) 7 111 [.ref (ad 0 0), .int p1, .int p2] σ r σ1 := by
  refine MI.of (by decide) (Nat.le_of_ble_eq_true rfl) ?_
  intro p e s m args below meth c ls cx hr hk hP hl
  have hl : lv_has ls 3 [(0, .ref (ad 0 0)), (1, .int p1), (2, .int p2)] := hl
  rw [f11_whyRefused] at hF
  refine r_aload_n cx dX11_whyRefused_0 (lv_at hl 0 rfl) ?_
  refine r_iload_n cx dX11_whyRefused_1 (lv_at hl 1 rfl) ?_
  obtain ⟨v1, s2, hc, hF⟩ := bnx_nt hF
  refine r_callVv cx hP (As := [.int p1]) (z11_requireCard l Γ ad A p1 σ v1 s2 hc) mw11_191 ⟨Nat.le_of_ble_eq_true rfl, Nat.le_of_ble_eq_true rfl⟩ (dXr (by decide)) rfl rfl rfl (Nat.le_of_ble_eq_true rfl) hl.1 ⟨Nat.zero_le _, Nat.zero_le _⟩ dX11_whyRefused_2 (fun H locs hP => ?_)
  refine r_aload_n cx dX11_whyRefused_5 (lv_at hl 0 rfl) ?_
  refine r_iload_n cx dX11_whyRefused_6 (lv_at hl 2 rfl) ?_
  obtain ⟨v3, s4, hc, hF⟩ := bnx_nt hF
  refine r_callVv cx hP (As := [.int p2]) (z11_requireBed l Γ ad A p2 s2 v3 s4 hc) mw11_194 ⟨Nat.le_of_ble_eq_true rfl, Nat.le_of_ble_eq_true rfl⟩ (dXr (by decide)) rfl rfl rfl (Nat.le_of_ble_eq_true rfl) hl.1 ⟨Nat.zero_le _, Nat.zero_le _⟩ dX11_whyRefused_7 (fun H locs hP => ?_)
  refine r_aload_n cx dX11_whyRefused_10 (lv_at hl 0 rfl) ?_
  refine gf11_12 cx hP dX11_whyRefused_11 ?_
  refine r_iload_n cx dX11_whyRefused_14 (lv_at hl 1 rfl) ?_
  refine r_iload_n cx dX11_whyRefused_15 (lv_at hl 2 rfl) ?_
  obtain ⟨v5, hc, hF⟩ := bnd_some hF
  refine r_callVi cx hP (As := [.int p1, .int p2]) (w4_reasonOfRefusal l Γ ad A 8 (by decide : 8 < 11) p1 p2 s4 v5 hc) mw11_300 ⟨Nat.le_of_ble_eq_true rfl, Nat.le_of_ble_eq_true rfl⟩ (dXg (by decide : 8 < 11) (by decide)) rfl rfl rfl (Nat.le_of_ble_eq_true rfl) hl.1 ⟨Nat.zero_le _, Nat.zero_le _⟩ dX11_whyRefused_16 (fun H locs hP => ?_)
  exact r_iret cx hP hr hk dX11_whyRefused_19 (nt1 hF)
set_option maxHeartbeats 4000000 in
set_option maxRecDepth 100000 in
theorem z11_visit (l : Launch) (Γ : Wc) (ad : Nat → Nat → Nat) (A : Nat → Prop) (p1 : Int32) (p2 : Int32) (σ : Sig) (r : Int32) (σ1 : Sig) (hF : f11_visit p1 p2 σ = some (0, r, σ1)) : MI l SX Γ ad A yX11_visit cX11_visit 3 (some .int) 7 111 [.ref (ad 0 0), .int p1, .int p2] σ r σ1 := by
  refine MI.of (by decide) (Nat.le_of_ble_eq_true rfl) ?_
  intro p e s m args below meth c ls cx hr hk hP hl
  have hl : lv_has ls 3 [(0, .ref (ad 0 0)), (1, .int p1), (2, .int p2)] := hl
  rw [f11_visit] at hF
  refine r_aload_n cx dX11_visit_0 (lv_at hl 0 rfl) ?_
  refine r_iload_n cx dX11_visit_1 (lv_at hl 1 rfl) ?_
  obtain ⟨v1, s2, hc, hF⟩ := bnx_nt hF
  refine r_callVv cx hP (As := [.int p1]) (z11_requireCard l Γ ad A p1 σ v1 s2 hc) mw11_191 ⟨Nat.le_of_ble_eq_true rfl, Nat.le_of_ble_eq_true rfl⟩ (dXr (by decide)) rfl rfl rfl (Nat.le_of_ble_eq_true rfl) hl.1 ⟨Nat.zero_le _, Nat.zero_le _⟩ dX11_visit_2 (fun H locs hP => ?_)
  refine r_aload_n cx dX11_visit_5 (lv_at hl 0 rfl) ?_
  refine r_iload_n cx dX11_visit_6 (lv_at hl 2 rfl) ?_
  obtain ⟨v3, s4, hc, hF⟩ := bnx_nt hF
  refine r_callVv cx hP (As := [.int p2]) (z11_requireBed l Γ ad A p2 s2 v3 s4 hc) mw11_194 ⟨Nat.le_of_ble_eq_true rfl, Nat.le_of_ble_eq_true rfl⟩ (dXr (by decide)) rfl rfl rfl (Nat.le_of_ble_eq_true rfl) hl.1 ⟨Nat.zero_le _, Nat.zero_le _⟩ dX11_visit_7 (fun H locs hP => ?_)
  refine r_aload_n cx dX11_visit_10 (lv_at hl 0 rfl) ?_
  refine gf11_22 cx hP dX11_visit_11 ?_
  refine r_aload_n cx dX11_visit_14 (lv_at hl 0 rfl) ?_
  refine gf11_12 cx hP dX11_visit_15 ?_
  obtain ⟨s5, hc, hF⟩ := bnd_some hF
  refine r_callVv cx hP (As := [.ref (ad (8 + 1) 0)]) (w5_remember l Γ ad A 8 (by decide : 8 < 11) s4 s5 hc) mw11_76 ⟨Nat.le_of_ble_eq_true rfl, Nat.le_of_ble_eq_true rfl⟩ (dXr (by decide)) rfl rfl rfl (Nat.le_of_ble_eq_true rfl) hl.1 ⟨Nat.zero_le _, Nat.zero_le _⟩ dX11_visit_18 (fun H locs hP => ?_)
  refine r_aload_n cx dX11_visit_21 (lv_at hl 0 rfl) ?_
  refine gf11_12 cx hP dX11_visit_22 ?_
  refine r_iload_n cx dX11_visit_25 (lv_at hl 1 rfl) ?_
  refine r_iload_n cx dX11_visit_26 (lv_at hl 2 rfl) ?_
  obtain ⟨v6, s7, hc, hF⟩ := bns_some hF
  refine r_callVi cx hP (As := [.int p1, .int p2]) (w4_showCard l Γ ad A 8 (by decide : 8 < 11) p1 p2 s5 v6 s7 hc) mw11_197 ⟨Nat.le_of_ble_eq_true rfl, Nat.le_of_ble_eq_true rfl⟩ (dXg (by decide : 8 < 11) (by decide)) rfl rfl rfl (Nat.le_of_ble_eq_true rfl) hl.1 ⟨Nat.zero_le _, Nat.zero_le _⟩ dX11_visit_27 (fun H locs hP => ?_)
  exact r_iret cx hP hr hk dX11_visit_30 (nt1 hF)
set_option maxHeartbeats 4000000 in
set_option maxRecDepth 100000 in
theorem z11_isInSeason (l : Launch) (Γ : Wc) (ad : Nat → Nat → Nat) (A : Nat → Prop) (p1 : Int32) (σ : Sig) (r : Int32) (σ1 : Sig) (hF : f11_isInSeason p1 σ = some (0, r, σ1)) : MI l SX Γ ad A yX11_isInSeason cX11_isInSeason 2 (some .boolean) 7 111 [.ref (ad 0 0), .int p1] σ r σ1 := by
  refine MI.of (by decide) (Nat.le_of_ble_eq_true rfl) ?_
  intro p e s m args below meth c ls cx hr hk hP hl
  have hl : lv_has ls 2 [(0, .ref (ad 0 0)), (1, .int p1)] := hl
  rw [f11_isInSeason] at hF
  refine r_aload_n cx dX11_isInSeason_0 (lv_at hl 0 rfl) ?_
  refine r_iload_n cx dX11_isInSeason_1 (lv_at hl 1 rfl) ?_
  obtain ⟨v1, s2, hc, hF⟩ := bnx_nt hF
  refine r_callVv cx hP (As := [.int p1]) (z11_requireBed l Γ ad A p1 σ v1 s2 hc) mw11_194 ⟨Nat.le_of_ble_eq_true rfl, Nat.le_of_ble_eq_true rfl⟩ (dXr (by decide)) rfl rfl rfl (Nat.le_of_ble_eq_true rfl) hl.1 ⟨Nat.zero_le _, Nat.zero_le _⟩ dX11_isInSeason_2 (fun H locs hP => ?_)
  refine r_aload_n cx dX11_isInSeason_5 (lv_at hl 0 rfl) ?_
  refine gf11_12 cx hP dX11_isInSeason_6 ?_
  refine gf11_104 cx hP (by decide : 8 < 11) dX11_isInSeason_9 ?_
  refine r_iload_n cx dX11_isInSeason_12 (lv_at hl 1 rfl) ?_
  refine r_aload_n cx dX11_isInSeason_13 (lv_at hl 0 rfl) ?_
  refine gf11_12 cx hP dX11_isInSeason_14 ?_
  refine gf11_122 cx hP (by decide : 8 < 11) dX11_isInSeason_17 ?_
  obtain ⟨v3, hc, hF⟩ := bnd_some hF
  refine r_callVi cx hP (As := []) (w3_today l Γ ad A 8 (by decide : 8 < 11) s2 v3 hc) mw11_142 ⟨Nat.le_of_ble_eq_true rfl, Nat.le_of_ble_eq_true rfl⟩ (dXg (by decide : 8 < 11) (by decide)) rfl rfl rfl (Nat.le_of_ble_eq_true rfl) hl.1 ⟨Nat.zero_le _, Nat.zero_le _⟩ dX11_isInSeason_20 (fun H locs hP => ?_)
  obtain ⟨v4, hc, hF⟩ := bnd_some hF
  refine r_callVi cx hP (As := [.int p1, .int v3]) (w0_hasSeasonOn l Γ ad A 8 (by decide : 8 < 11) p1 v3 s2 v4 hc) mw11_255 ⟨Nat.le_of_ble_eq_true rfl, Nat.le_of_ble_eq_true rfl⟩ (dXg (by decide : 8 < 11) (by decide)) rfl rfl rfl (Nat.le_of_ble_eq_true rfl) hl.1 ⟨Nat.zero_le _, Nat.zero_le _⟩ dX11_isInSeason_23 (fun H locs hP => ?_)
  exact r_zret cx hP hr hk (nar_gz (gz_some hF).1) dX11_isInSeason_26 (nt1 (gz_some hF).2)
set_option maxHeartbeats 4000000 in
set_option maxRecDepth 100000 in
theorem z11_requireRange (l : Launch) (Γ : Wc) (ad : Nat → Nat → Nat) (A : Nat → Prop) (p0 : Int32) (p1 : Int32) (p2 : Int32) (σ : Sig) (r : Int32) (σ1 : Sig) (hF : f11_requireRange p0 p1 p2 σ = some (0, r, σ1)) : MV l SX Γ ad A yX11_requireRange cX11_requireRange 3 6 90 [.int p0, .int p1, .int p2] σ σ1 := by
  refine MV.of (by decide) (Nat.le_of_ble_eq_true rfl) ?_
  intro p e s m args below meth c ls cx hr hk hP hl
  have hl : lv_has ls 3 [(0, .int p0), (1, .int p1), (2, .int p2)] := hl
  rw [f11_requireRange] at hF
  generalize hH0 : s.heap = H0 at hP ⊢
  generalize ([] : List Loc) = locs0 at hP ⊢
  clear hH0
  have b10 : ∀ (σ : Sig) (H : Heap) (locs : List Loc) (ls : Array Slot), PS SX Γ ad A s σ H locs → lv_has ls 3 [] → f11_requireRange_b10 σ = some (0, r, σ1) → W p l e (rmz 6 90) s m args below meth c H locs 0 0 (QV SX Γ ad A below args s σ1) (F0 m 10 ls []) := by
    intro σ H locs ls hP hl hF
    rw [f11_requireRange_b10] at hF
    exact nt0 (by decide) hF
  refine r_iload_n cx dX11_requireRange_0 (lv_at hl 0 rfl) ?_
  refine r_iload_n cx dX11_requireRange_1 (lv_at hl 1 rfl) ?_
  refine r_icmp_lt cx 10 dX11_requireRange_2 (by decide) hF (fun hF => ?_) (fun hF => ?_)
  · exact b10 σ _ _ _ hP (lv_sub hl [] rfl) hF
  · refine r_iload_n cx dX11_requireRange_5 (lv_at hl 0 rfl) ?_
    refine r_iload_n cx dX11_requireRange_6 (lv_at hl 2 rfl) ?_
    refine r_icmp_le cx 21 dX11_requireRange_7 (by decide) hF (fun hF => ?_) (fun hF => ?_)
    · exact r_vret cx hP hr hk dX11_requireRange_21 (nt2 hF)
    · exact b10 σ _ _ _ hP (lv_sub hl [] rfl) hF
set_option maxHeartbeats 4000000 in
set_option maxRecDepth 100000 in
theorem z11_requireState (l : Launch) (Γ : Wc) (ad : Nat → Nat → Nat) (A : Nat → Prop) (p0 : Int32) (σ : Sig) (r : Int32) (σ1 : Sig) (hF : f11_requireState p0 σ = some (0, r, σ1)) : MV l SX Γ ad A yX11_requireState cX11_requireState 1 6 90 [.int p0] σ σ1 := by
  refine MV.of (by decide) (Nat.le_of_ble_eq_true rfl) ?_
  intro p e s m args below meth c ls cx hr hk hP hl
  have hl : lv_has ls 1 [(0, .int p0)] := hl
  rw [f11_requireState] at hF
  refine r_iload_n cx dX11_requireState_0 (lv_at hl 0 rfl) ?_
  refine r_if_ne cx 15 dX11_requireState_1 (by decide) hF (fun hF => ?_) (fun hF => ?_)
  · exact r_vret cx hP hr hk dX11_requireState_15 (nt2 hF)
  · exact nt0 (by decide) hF
set_option maxHeartbeats 4000000 in
set_option maxRecDepth 100000 in
theorem z11_pass (l : Launch) (Γ : Wc) (ad : Nat → Nat → Nat) (A : Nat → Prop) (p1 : Int32) (σ : Sig) (r : Int32) (σ1 : Sig) (hF : f11_pass p1 σ = some (0, r, σ1)) : MI l SX Γ ad A yX11_pass cX11_pass 2 (some .int) 7 112 [.ref (ad 0 0), .int p1] σ r σ1 := by
  refine MI.of (by decide) (Nat.le_of_ble_eq_true rfl) ?_
  intro p e s m args below meth c ls cx hr hk hP hl
  have hl : lv_has ls 2 [(0, .ref (ad 0 0)), (1, .int p1)] := hl
  rw [f11_pass] at hF
  refine r_iload_n cx dX11_pass_0 (lv_at hl 1 rfl) ?_
  refine r_iconst cx 1 dX11_pass_1 (by decide) ?_
  refine r_sipush cx 500 dX11_pass_2 (by decide) ?_
  obtain ⟨v1, s2, hc, hF⟩ := bnx_nt hF
  refine r_callSv cx hP (As := [.int p1, .int 1, .int 500]) (z11_requireRange l Γ ad A p1 1 500 σ v1 s2 hc) mw11_69 ⟨Nat.le_of_ble_eq_true rfl, Nat.le_of_ble_eq_true rfl⟩ rfl (Nat.le_of_ble_eq_true rfl) hl.1 ⟨Nat.zero_le _, Nat.zero_le _⟩ dX11_pass_5 (fun H locs hP => ?_)
  refine r_aload_n cx dX11_pass_8 (lv_at hl 0 rfl) ?_
  refine gf11_12 cx hP dX11_pass_9 ?_
  refine gf11_122 cx hP (by decide : 8 < 11) dX11_pass_12 ?_
  refine r_iload_n cx dX11_pass_15 (lv_at hl 1 rfl) ?_
  obtain ⟨v3, hc, hF⟩ := bnd_some hF
  refine r_callVi cx hP (As := [.int p1]) (w3_canGoOn l Γ ad A 8 (by decide : 8 < 11) p1 s2 v3 hc) mw11_213 ⟨Nat.le_of_ble_eq_true rfl, Nat.le_of_ble_eq_true rfl⟩ (dXg (by decide : 8 < 11) (by decide)) rfl rfl rfl (Nat.le_of_ble_eq_true rfl) hl.1 ⟨Nat.zero_le _, Nat.zero_le _⟩ dX11_pass_16 (fun H locs hP => ?_)
  obtain ⟨v4, s5, hc, hF⟩ := bnx_nt hF
  refine r_callSv cx hP (As := [.int v3]) (z11_requireState l Γ ad A v3 s2 v4 s5 hc) mw11_114 ⟨Nat.le_of_ble_eq_true rfl, Nat.le_of_ble_eq_true rfl⟩ rfl (Nat.le_of_ble_eq_true rfl) hl.1 ⟨Nat.zero_le _, Nat.zero_le _⟩ dX11_pass_19 (fun H locs hP => ?_)
  refine r_aload_n cx dX11_pass_22 (lv_at hl 0 rfl) ?_
  refine gf11_22 cx hP dX11_pass_23 ?_
  refine r_aload_n cx dX11_pass_26 (lv_at hl 0 rfl) ?_
  refine gf11_12 cx hP dX11_pass_27 ?_
  obtain ⟨s6, hc, hF⟩ := bnd_some hF
  refine r_callVv cx hP (As := [.ref (ad (8 + 1) 0)]) (w5_remember l Γ ad A 8 (by decide : 8 < 11) s5 s6 hc) mw11_76 ⟨Nat.le_of_ble_eq_true rfl, Nat.le_of_ble_eq_true rfl⟩ (dXr (by decide)) rfl rfl rfl (Nat.le_of_ble_eq_true rfl) hl.1 ⟨Nat.zero_le _, Nat.zero_le _⟩ dX11_pass_30 (fun H locs hP => ?_)
  refine r_aload_n cx dX11_pass_33 (lv_at hl 0 rfl) ?_
  refine gf11_12 cx hP dX11_pass_34 ?_
  refine r_iload_n cx dX11_pass_37 (lv_at hl 1 rfl) ?_
  obtain ⟨s7, hc, hF⟩ := bnd_some hF
  refine r_callVv cx hP (As := [.int p1]) (w4_letTicksPass l Γ ad A 8 (by decide : 8 < 11) p1 s6 s7 hc) mw11_216 ⟨Nat.le_of_ble_eq_true rfl, Nat.le_of_ble_eq_true rfl⟩ (dXg (by decide : 8 < 11) (by decide)) rfl rfl rfl (Nat.le_of_ble_eq_true rfl) hl.1 ⟨Nat.zero_le _, Nat.zero_le _⟩ dX11_pass_38 (fun H locs hP => ?_)
  refine r_aload_n cx dX11_pass_41 (lv_at hl 0 rfl) ?_
  refine gf11_12 cx hP dX11_pass_42 ?_
  refine gf11_122 cx hP (by decide : 8 < 11) dX11_pass_45 ?_
  refine gf11_219 cx hP (by decide : 8 < 11) dX11_pass_48 hF (fun v8 hF => ?_)
  exact r_iret cx hP hr hk dX11_pass_51 (nt1 hF)
