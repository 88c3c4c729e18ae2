/-! printed: the law's wrappers, where nothing is thrown -/
set_option maxRecDepth 100000 in
theorem wn_visitsWith (l : Launch) (Γ : Wc) (ad : Nat → Nat → Nat) (A : Nat → Prop) (p1 : Int32) (σ : Sig) (r : Int32) (σ1 : Sig) (hF : f11_visitsWith p1 σ = some (0, r, σ1)) : MIw l SX Γ ad A yL_visitsWith cL_visitsWith 3 (some .int) [(0, 5, 6, 24)] 8 132 [.ref (ad 0 0), .int p1] σ r σ1 := by
  refine MIw.of (by decide) (Nat.le_of_ble_eq_true rfl) ?_
  intro p e s m args below meth c ls cx hr hk hP hl
  have hl : lv_has ls 3 [(0, .ref (ad 0 0)), (1, .int p1)] := hl
  refine r_aload_n cx dL_visitsWith_0 (lv_at hl 0 rfl) ?_
  refine r_iload_n cx dL_visitsWith_1 (lv_at hl 1 rfl) ?_
  refine r_callVi cx hP (As := [.int p1]) (z11_visitsWith l Γ ad A p1 σ r σ1 hF) mw13_108 ⟨Nat.le_of_ble_eq_true rfl, Nat.le_of_ble_eq_true rfl⟩ (dXr (by decide)) rfl rfl rfl (Nat.le_of_ble_eq_true rfl) hl.1 ⟨Nat.zero_le _, Nat.zero_le _⟩ dL_visitsWith_2 (fun H locs hP => ?_)
  exact r_iret cx hP hr hk dL_visitsWith_5 rfl
set_option maxRecDepth 100000 in
theorem wn_passOf (l : Launch) (Γ : Wc) (ad : Nat → Nat → Nat) (A : Nat → Prop) (p1 : Int32) (σ : Sig) (r : Int32) (σ1 : Sig) (hF : f11_passOf p1 σ = some (0, r, σ1)) : MIw l SX Γ ad A yL_passOf cL_passOf 3 (some .int) [(0, 5, 6, 24)] 8 132 [.ref (ad 0 0), .int p1] σ r σ1 := by
  refine MIw.of (by decide) (Nat.le_of_ble_eq_true rfl) ?_
  intro p e s m args below meth c ls cx hr hk hP hl
  have hl : lv_has ls 3 [(0, .ref (ad 0 0)), (1, .int p1)] := hl
  refine r_aload_n cx dL_passOf_0 (lv_at hl 0 rfl) ?_
  refine r_iload_n cx dL_passOf_1 (lv_at hl 1 rfl) ?_
  refine r_callVi cx hP (As := [.int p1]) (z11_passOf l Γ ad A p1 σ r σ1 hF) mw13_126 ⟨Nat.le_of_ble_eq_true rfl, Nat.le_of_ble_eq_true rfl⟩ (dXr (by decide)) rfl rfl rfl (Nat.le_of_ble_eq_true rfl) hl.1 ⟨Nat.zero_le _, Nat.zero_le _⟩ dL_passOf_2 (fun H locs hP => ?_)
  exact r_iret cx hP hr hk dL_passOf_5 rfl
set_option maxRecDepth 100000 in
theorem wn_isBlocked (l : Launch) (Γ : Wc) (ad : Nat → Nat → Nat) (A : Nat → Prop) (p1 : Int32) (σ : Sig) (r : Int32) (σ1 : Sig) (hF : f11_isBlocked p1 σ = some (0, r, σ1)) : MIw l SX Γ ad A yL_isBlocked cL_isBlocked 3 (some .boolean) [(0, 5, 6, 24)] 8 132 [.ref (ad 0 0), .int p1] σ r σ1 := by
  refine MIw.of (by decide) (Nat.le_of_ble_eq_true rfl) ?_
  intro p e s m args below meth c ls cx hr hk hP hl
  have hl : lv_has ls 3 [(0, .ref (ad 0 0)), (1, .int p1)] := hl
  refine r_aload_n cx dL_isBlocked_0 (lv_at hl 0 rfl) ?_
  refine r_iload_n cx dL_isBlocked_1 (lv_at hl 1 rfl) ?_
  refine r_callVi cx hP (As := [.int p1]) (z11_isBlocked l Γ ad A p1 σ r σ1 hF) mw13_132 ⟨Nat.le_of_ble_eq_true rfl, Nat.le_of_ble_eq_true rfl⟩ (dXr (by decide)) rfl rfl rfl (Nat.le_of_ble_eq_true rfl) hl.1 ⟨Nat.zero_le _, Nat.zero_le _⟩ dL_isBlocked_2 (fun H locs hP => ?_)
  exact r_zret cx hP hr hk (nar_gz (isb_isBlocked hF)) dL_isBlocked_5 rfl
set_option maxRecDepth 100000 in
theorem wn_cardOf (l : Launch) (Γ : Wc) (ad : Nat → Nat → Nat) (A : Nat → Prop) (p1 : Int32) (σ : Sig) (r : Int32) (σ1 : Sig) (hF : f11_cardOf p1 σ = some (0, r, σ1)) : MIw l SX Γ ad A yL_cardOf cL_cardOf 3 (some .int) [(0, 5, 6, 24)] 8 132 [.ref (ad 0 0), .int p1] σ r σ1 := by
  refine MIw.of (by decide) (Nat.le_of_ble_eq_true rfl) ?_
  intro p e s m args below meth c ls cx hr hk hP hl
  have hl : lv_has ls 3 [(0, .ref (ad 0 0)), (1, .int p1)] := hl
  refine r_aload_n cx dL_cardOf_0 (lv_at hl 0 rfl) ?_
  refine r_iload_n cx dL_cardOf_1 (lv_at hl 1 rfl) ?_
  refine r_callVi cx hP (As := [.int p1]) (z11_cardOf l Γ ad A p1 σ r σ1 hF) mw13_102 ⟨Nat.le_of_ble_eq_true rfl, Nat.le_of_ble_eq_true rfl⟩ (dXr (by decide)) rfl rfl rfl (Nat.le_of_ble_eq_true rfl) hl.1 ⟨Nat.zero_le _, Nat.zero_le _⟩ dL_cardOf_2 (fun H locs hP => ?_)
  exact r_iret cx hP hr hk dL_cardOf_5 rfl
set_option maxRecDepth 100000 in
theorem wn_isReturned (l : Launch) (Γ : Wc) (ad : Nat → Nat → Nat) (A : Nat → Prop) (p1 : Int32) (σ : Sig) (r : Int32) (σ1 : Sig) (hF : f11_isReturned p1 σ = some (0, r, σ1)) : MIw l SX Γ ad A yL_isReturned cL_isReturned 3 (some .boolean) [(0, 5, 6, 24)] 8 132 [.ref (ad 0 0), .int p1] σ r σ1 := by
  refine MIw.of (by decide) (Nat.le_of_ble_eq_true rfl) ?_
  intro p e s m args below meth c ls cx hr hk hP hl
  have hl : lv_has ls 3 [(0, .ref (ad 0 0)), (1, .int p1)] := hl
  refine r_aload_n cx dL_isReturned_0 (lv_at hl 0 rfl) ?_
  refine r_iload_n cx dL_isReturned_1 (lv_at hl 1 rfl) ?_
  refine r_callVi cx hP (As := [.int p1]) (z11_isReturned l Γ ad A p1 σ r σ1 hF) mw13_123 ⟨Nat.le_of_ble_eq_true rfl, Nat.le_of_ble_eq_true rfl⟩ (dXr (by decide)) rfl rfl rfl (Nat.le_of_ble_eq_true rfl) hl.1 ⟨Nat.zero_le _, Nat.zero_le _⟩ dL_isReturned_2 (fun H locs hP => ?_)
  exact r_zret cx hP hr hk (nar_gz (isb_isReturned hF)) dL_isReturned_5 rfl
set_option maxRecDepth 100000 in
theorem wn_refundOf (l : Launch) (Γ : Wc) (ad : Nat → Nat → Nat) (A : Nat → Prop) (p1 : Int32) (σ : Sig) (r : Int32) (σ1 : Sig) (hF : f11_refundOf p1 σ = some (0, r, σ1)) : MIw l SX Γ ad A yL_refundOf cL_refundOf 3 (some .int) [(0, 5, 6, 24)] 8 132 [.ref (ad 0 0), .int p1] σ r σ1 := by
  refine MIw.of (by decide) (Nat.le_of_ble_eq_true rfl) ?_
  intro p e s m args below meth c ls cx hr hk hP hl
  have hl : lv_has ls 3 [(0, .ref (ad 0 0)), (1, .int p1)] := hl
  refine r_aload_n cx dL_refundOf_0 (lv_at hl 0 rfl) ?_
  refine r_iload_n cx dL_refundOf_1 (lv_at hl 1 rfl) ?_
  refine r_callVi cx hP (As := [.int p1]) (z11_refundOf l Γ ad A p1 σ r σ1 hF) mw13_111 ⟨Nat.le_of_ble_eq_true rfl, Nat.le_of_ble_eq_true rfl⟩ (dXr (by decide)) rfl rfl rfl (Nat.le_of_ble_eq_true rfl) hl.1 ⟨Nat.zero_le _, Nat.zero_le _⟩ dL_refundOf_2 (fun H locs hP => ?_)
  exact r_iret cx hP hr hk dL_refundOf_5 rfl
set_option maxRecDepth 100000 in
theorem wn_lastDay (l : Launch) (Γ : Wc) (ad : Nat → Nat → Nat) (A : Nat → Prop) (p1 : Int32) (σ : Sig) (r : Int32) (σ1 : Sig) (hF : f11_lastDay p1 σ = some (0, r, σ1)) : MIw l SX Γ ad A yL_lastDay cL_lastDay 3 (some .int) [(0, 5, 6, 24)] 8 132 [.ref (ad 0 0), .int p1] σ r σ1 := by
  refine MIw.of (by decide) (Nat.le_of_ble_eq_true rfl) ?_
  intro p e s m args below meth c ls cx hr hk hP hl
  have hl : lv_has ls 3 [(0, .ref (ad 0 0)), (1, .int p1)] := hl
  refine r_aload_n cx dL_lastDay_0 (lv_at hl 0 rfl) ?_
  refine r_iload_n cx dL_lastDay_1 (lv_at hl 1 rfl) ?_
  refine r_callVi cx hP (As := [.int p1]) (z11_lastDay l Γ ad A p1 σ r σ1 hF) mw13_96 ⟨Nat.le_of_ble_eq_true rfl, Nat.le_of_ble_eq_true rfl⟩ (dXr (by decide)) rfl rfl rfl (Nat.le_of_ble_eq_true rfl) hl.1 ⟨Nat.zero_le _, Nat.zero_le _⟩ dL_lastDay_2 (fun H locs hP => ?_)
  exact r_iret cx hP hr hk dL_lastDay_5 rfl
set_option maxRecDepth 100000 in
theorem wn_firstDay (l : Launch) (Γ : Wc) (ad : Nat → Nat → Nat) (A : Nat → Prop) (p1 : Int32) (σ : Sig) (r : Int32) (σ1 : Sig) (hF : f11_firstDay p1 σ = some (0, r, σ1)) : MIw l SX Γ ad A yL_firstDay cL_firstDay 3 (some .int) [(0, 5, 6, 24)] 8 132 [.ref (ad 0 0), .int p1] σ r σ1 := by
  refine MIw.of (by decide) (Nat.le_of_ble_eq_true rfl) ?_
  intro p e s m args below meth c ls cx hr hk hP hl
  have hl : lv_has ls 3 [(0, .ref (ad 0 0)), (1, .int p1)] := hl
  refine r_aload_n cx dL_firstDay_0 (lv_at hl 0 rfl) ?_
  refine r_iload_n cx dL_firstDay_1 (lv_at hl 1 rfl) ?_
  refine r_callVi cx hP (As := [.int p1]) (z11_firstDay l Γ ad A p1 σ r σ1 hF) mw13_93 ⟨Nat.le_of_ble_eq_true rfl, Nat.le_of_ble_eq_true rfl⟩ (dXr (by decide)) rfl rfl rfl (Nat.le_of_ble_eq_true rfl) hl.1 ⟨Nat.zero_le _, Nat.zero_le _⟩ dL_firstDay_2 (fun H locs hP => ?_)
  exact r_iret cx hP hr hk dL_firstDay_5 rfl
set_option maxRecDepth 100000 in
theorem wn_usedDays (l : Launch) (Γ : Wc) (ad : Nat → Nat → Nat) (A : Nat → Prop) (p1 : Int32) (σ : Sig) (r : Int32) (σ1 : Sig) (hF : f11_usedDays p1 σ = some (0, r, σ1)) : MIw l SX Γ ad A yL_usedDays cL_usedDays 3 (some .int) [(0, 5, 6, 24)] 8 132 [.ref (ad 0 0), .int p1] σ r σ1 := by
  refine MIw.of (by decide) (Nat.le_of_ble_eq_true rfl) ?_
  intro p e s m args below meth c ls cx hr hk hP hl
  have hl : lv_has ls 3 [(0, .ref (ad 0 0)), (1, .int p1)] := hl
  refine r_aload_n cx dL_usedDays_0 (lv_at hl 0 rfl) ?_
  refine r_iload_n cx dL_usedDays_1 (lv_at hl 1 rfl) ?_
  refine r_callVi cx hP (As := [.int p1]) (z11_usedDays l Γ ad A p1 σ r σ1 hF) mw13_105 ⟨Nat.le_of_ble_eq_true rfl, Nat.le_of_ble_eq_true rfl⟩ (dXr (by decide)) rfl rfl rfl (Nat.le_of_ble_eq_true rfl) hl.1 ⟨Nat.zero_le _, Nat.zero_le _⟩ dL_usedDays_2 (fun H locs hP => ?_)
  exact r_iret cx hP hr hk dL_usedDays_5 rfl
set_option maxRecDepth 100000 in
theorem wn_owed (l : Launch) (Γ : Wc) (ad : Nat → Nat → Nat) (A : Nat → Prop) (p1 : Int32) (σ : Sig) (r : Int32) (σ1 : Sig) (hF : f11_owed p1 σ = some (0, r, σ1)) : MIw l SX Γ ad A yL_owed cL_owed 3 (some .int) [(0, 5, 6, 24)] 8 132 [.ref (ad 0 0), .int p1] σ r σ1 := by
  refine MIw.of (by decide) (Nat.le_of_ble_eq_true rfl) ?_
  intro p e s m args below meth c ls cx hr hk hP hl
  have hl : lv_has ls 3 [(0, .ref (ad 0 0)), (1, .int p1)] := hl
  refine r_aload_n cx dL_owed_0 (lv_at hl 0 rfl) ?_
  refine r_iload_n cx dL_owed_1 (lv_at hl 1 rfl) ?_
  refine r_callVi cx hP (As := [.int p1]) (z11_owed l Γ ad A p1 σ r σ1 hF) mw13_114 ⟨Nat.le_of_ble_eq_true rfl, Nat.le_of_ble_eq_true rfl⟩ (dXr (by decide)) rfl rfl rfl (Nat.le_of_ble_eq_true rfl) hl.1 ⟨Nat.zero_le _, Nat.zero_le _⟩ dL_owed_2 (fun H locs hP => ?_)
  exact r_iret cx hP hr hk dL_owed_5 rfl
set_option maxRecDepth 100000 in
theorem wn_priceOf (l : Launch) (Γ : Wc) (ad : Nat → Nat → Nat) (A : Nat → Prop) (p1 : Int32) (σ : Sig) (r : Int32) (σ1 : Sig) (hF : f11_priceOf p1 σ = some (0, r, σ1)) : MIw l SX Γ ad A yL_priceOf cL_priceOf 3 (some .int) [(0, 5, 6, 24)] 8 132 [.ref (ad 0 0), .int p1] σ r σ1 := by
  refine MIw.of (by decide) (Nat.le_of_ble_eq_true rfl) ?_
  intro p e s m args below meth c ls cx hr hk hP hl
  have hl : lv_has ls 3 [(0, .ref (ad 0 0)), (1, .int p1)] := hl
  refine r_aload_n cx dL_priceOf_0 (lv_at hl 0 rfl) ?_
  refine r_iload_n cx dL_priceOf_1 (lv_at hl 1 rfl) ?_
  refine r_callVi cx hP (As := [.int p1]) (z11_priceOf l Γ ad A p1 σ r σ1 hF) mw13_99 ⟨Nat.le_of_ble_eq_true rfl, Nat.le_of_ble_eq_true rfl⟩ (dXr (by decide)) rfl rfl rfl (Nat.le_of_ble_eq_true rfl) hl.1 ⟨Nat.zero_le _, Nat.zero_le _⟩ dL_priceOf_2 (fun H locs hP => ?_)
  exact r_iret cx hP hr hk dL_priceOf_5 rfl
set_option maxRecDepth 100000 in
theorem wn_ticksUntilReady (l : Launch) (Γ : Wc) (ad : Nat → Nat → Nat) (A : Nat → Prop) (p1 : Int32) (σ : Sig) (r : Int32) (σ1 : Sig) (hF : f11_ticksUntilReady p1 σ = some (0, r, σ1)) : MIw l SX Γ ad A yL_ticksUntilReady cL_ticksUntilReady 3 (some .int) [(0, 5, 6, 24)] 8 132 [.ref (ad 0 0), .int p1] σ r σ1 := by
  refine MIw.of (by decide) (Nat.le_of_ble_eq_true rfl) ?_
  intro p e s m args below meth c ls cx hr hk hP hl
  have hl : lv_has ls 3 [(0, .ref (ad 0 0)), (1, .int p1)] := hl
  refine r_aload_n cx dL_ticksUntilReady_0 (lv_at hl 0 rfl) ?_
  refine r_iload_n cx dL_ticksUntilReady_1 (lv_at hl 1 rfl) ?_
  refine r_callVi cx hP (As := [.int p1]) (z11_ticksUntilReady l Γ ad A p1 σ r σ1 hF) mw13_117 ⟨Nat.le_of_ble_eq_true rfl, Nat.le_of_ble_eq_true rfl⟩ (dXr (by decide)) rfl rfl rfl (Nat.le_of_ble_eq_true rfl) hl.1 ⟨Nat.zero_le _, Nat.zero_le _⟩ dL_ticksUntilReady_2 (fun H locs hP => ?_)
  exact r_iret cx hP hr hk dL_ticksUntilReady_5 rfl
set_option maxRecDepth 100000 in
theorem wn_visitsTo (l : Launch) (Γ : Wc) (ad : Nat → Nat → Nat) (A : Nat → Prop) (p1 : Int32) (σ : Sig) (r : Int32) (σ1 : Sig) (hF : f11_visitsTo p1 σ = some (0, r, σ1)) : MIw l SX Γ ad A yL_visitsTo cL_visitsTo 3 (some .int) [(0, 5, 6, 24)] 8 132 [.ref (ad 0 0), .int p1] σ r σ1 := by
  refine MIw.of (by decide) (Nat.le_of_ble_eq_true rfl) ?_
  intro p e s m args below meth c ls cx hr hk hP hl
  have hl : lv_has ls 3 [(0, .ref (ad 0 0)), (1, .int p1)] := hl
  refine r_aload_n cx dL_visitsTo_0 (lv_at hl 0 rfl) ?_
  refine r_iload_n cx dL_visitsTo_1 (lv_at hl 1 rfl) ?_
  refine r_callVi cx hP (As := [.int p1]) (z11_visitsTo l Γ ad A p1 σ r σ1 hF) mw13_83 ⟨Nat.le_of_ble_eq_true rfl, Nat.le_of_ble_eq_true rfl⟩ (dXr (by decide)) rfl rfl rfl (Nat.le_of_ble_eq_true rfl) hl.1 ⟨Nat.zero_le _, Nat.zero_le _⟩ dL_visitsTo_2 (fun H locs hP => ?_)
  exact r_iret cx hP hr hk dL_visitsTo_5 rfl
set_option maxRecDepth 100000 in
theorem wn_blooms (l : Launch) (Γ : Wc) (ad : Nat → Nat → Nat) (A : Nat → Prop) (p1 : Int32) (σ : Sig) (r : Int32) (σ1 : Sig) (hF : f11_blooms p1 σ = some (0, r, σ1)) : MIw l SX Γ ad A yL_blooms cL_blooms 3 (some .int) [(0, 5, 6, 24)] 8 132 [.ref (ad 0 0), .int p1] σ r σ1 := by
  refine MIw.of (by decide) (Nat.le_of_ble_eq_true rfl) ?_
  intro p e s m args below meth c ls cx hr hk hP hl
  have hl : lv_has ls 3 [(0, .ref (ad 0 0)), (1, .int p1)] := hl
  refine r_aload_n cx dL_blooms_0 (lv_at hl 0 rfl) ?_
  refine r_iload_n cx dL_blooms_1 (lv_at hl 1 rfl) ?_
  refine r_callVi cx hP (As := [.int p1]) (z11_blooms l Γ ad A p1 σ r σ1 hF) mw13_77 ⟨Nat.le_of_ble_eq_true rfl, Nat.le_of_ble_eq_true rfl⟩ (dXr (by decide)) rfl rfl rfl (Nat.le_of_ble_eq_true rfl) hl.1 ⟨Nat.zero_le _, Nat.zero_le _⟩ dL_blooms_2 (fun H locs hP => ?_)
  exact r_iret cx hP hr hk dL_blooms_5 rfl
set_option maxRecDepth 100000 in
theorem wn_placesLeft (l : Launch) (Γ : Wc) (ad : Nat → Nat → Nat) (A : Nat → Prop) (p1 : Int32) (σ : Sig) (r : Int32) (σ1 : Sig) (hF : f11_placesLeft p1 σ = some (0, r, σ1)) : MIw l SX Γ ad A yL_placesLeft cL_placesLeft 3 (some .int) [(0, 5, 6, 24)] 8 132 [.ref (ad 0 0), .int p1] σ r σ1 := by
  refine MIw.of (by decide) (Nat.le_of_ble_eq_true rfl) ?_
  intro p e s m args below meth c ls cx hr hk hP hl
  have hl : lv_has ls 3 [(0, .ref (ad 0 0)), (1, .int p1)] := hl
  refine r_aload_n cx dL_placesLeft_0 (lv_at hl 0 rfl) ?_
  refine r_iload_n cx dL_placesLeft_1 (lv_at hl 1 rfl) ?_
  refine r_callVi cx hP (As := [.int p1]) (z11_placesLeft l Γ ad A p1 σ r σ1 hF) mw13_80 ⟨Nat.le_of_ble_eq_true rfl, Nat.le_of_ble_eq_true rfl⟩ (dXr (by decide)) rfl rfl rfl (Nat.le_of_ble_eq_true rfl) hl.1 ⟨Nat.zero_le _, Nat.zero_le _⟩ dL_placesLeft_2 (fun H locs hP => ?_)
  exact r_iret cx hP hr hk dL_placesLeft_5 rfl
set_option maxRecDepth 100000 in
theorem wn_whyRefused (l : Launch) (Γ : Wc) (ad : Nat → Nat → Nat) (A : Nat → Prop) (p1 p2 : Int32) (σ : Sig) (r : Int32) (σ1 : Sig) (hF : f11_whyRefused p1 p2 σ = some (0, r, σ1)) : MIw l SX Γ ad A yL_whyRefused cL_whyRefused 4 (some .int) [(0, 6, 7, 24)] 8 133 [.ref (ad 0 0), .int p1, .int p2] σ r σ1 := by
  refine MIw.of (by decide) (Nat.le_of_ble_eq_true rfl) ?_
  intro p e s m args below meth c ls cx hr hk hP hl
  have hl : lv_has ls 4 [(0, .ref (ad 0 0)), (1, .int p1), (2, .int p2)] := hl
  refine r_aload_n cx dL_whyRefused_0 (lv_at hl 0 rfl) ?_
  refine r_iload_n cx dL_whyRefused_1 (lv_at hl 1 rfl) ?_
  refine r_iload_n cx dL_whyRefused_2 (lv_at hl 2 rfl) ?_
  refine r_callVi cx hP (As := [.int p1, .int p2]) (z11_whyRefused l Γ ad A p1 p2 σ r σ1 hF) mw13_135 ⟨Nat.le_of_ble_eq_true rfl, Nat.le_of_ble_eq_true rfl⟩ (dXr (by decide)) rfl rfl rfl (Nat.le_of_ble_eq_true rfl) hl.1 ⟨Nat.zero_le _, Nat.zero_le _⟩ dL_whyRefused_3 (fun H locs hP => ?_)
  exact r_iret cx hP hr hk dL_whyRefused_6 rfl
set_option maxRecDepth 100000 in
theorem wn_visit (l : Launch) (Γ : Wc) (ad : Nat → Nat → Nat) (A : Nat → Prop) (p1 p2 : Int32) (σ : Sig) (r : Int32) (σ1 : Sig) (hF : f11_visit p1 p2 σ = some (0, r, σ1)) : MIw l SX Γ ad A yL_visit cL_visit 4 (some .int) [(0, 6, 7, 24)] 8 133 [.ref (ad 0 0), .int p1, .int p2] σ r σ1 := by
  refine MIw.of (by decide) (Nat.le_of_ble_eq_true rfl) ?_
  intro p e s m args below meth c ls cx hr hk hP hl
  have hl : lv_has ls 4 [(0, .ref (ad 0 0)), (1, .int p1), (2, .int p2)] := hl
  refine r_aload_n cx dL_visit_0 (lv_at hl 0 rfl) ?_
  refine r_iload_n cx dL_visit_1 (lv_at hl 1 rfl) ?_
  refine r_iload_n cx dL_visit_2 (lv_at hl 2 rfl) ?_
  refine r_callVi cx hP (As := [.int p1, .int p2]) (z11_visit l Γ ad A p1 p2 σ r σ1 hF) mw13_62 ⟨Nat.le_of_ble_eq_true rfl, Nat.le_of_ble_eq_true rfl⟩ (dXr (by decide)) rfl rfl rfl (Nat.le_of_ble_eq_true rfl) hl.1 ⟨Nat.zero_le _, Nat.zero_le _⟩ dL_visit_3 (fun H locs hP => ?_)
  exact r_iret cx hP hr hk dL_visit_6 rfl
set_option maxRecDepth 100000 in
theorem wn_isInSeason (l : Launch) (Γ : Wc) (ad : Nat → Nat → Nat) (A : Nat → Prop) (p1 : Int32) (σ : Sig) (r : Int32) (σ1 : Sig) (hF : f11_isInSeason p1 σ = some (0, r, σ1)) : MIw l SX Γ ad A yL_isInSeason cL_isInSeason 3 (some .boolean) [(0, 5, 6, 24)] 8 132 [.ref (ad 0 0), .int p1] σ r σ1 := by
  refine MIw.of (by decide) (Nat.le_of_ble_eq_true rfl) ?_
  intro p e s m args below meth c ls cx hr hk hP hl
  have hl : lv_has ls 3 [(0, .ref (ad 0 0)), (1, .int p1)] := hl
  refine r_aload_n cx dL_isInSeason_0 (lv_at hl 0 rfl) ?_
  refine r_iload_n cx dL_isInSeason_1 (lv_at hl 1 rfl) ?_
  refine r_callVi cx hP (As := [.int p1]) (z11_isInSeason l Γ ad A p1 σ r σ1 hF) mw13_86 ⟨Nat.le_of_ble_eq_true rfl, Nat.le_of_ble_eq_true rfl⟩ (dXr (by decide)) rfl rfl rfl (Nat.le_of_ble_eq_true rfl) hl.1 ⟨Nat.zero_le _, Nat.zero_le _⟩ dL_isInSeason_2 (fun H locs hP => ?_)
  exact r_zret cx hP hr hk (nar_gz (isb_isInSeason hF)) dL_isInSeason_5 rfl
set_option maxRecDepth 100000 in
theorem wn_pass (l : Launch) (Γ : Wc) (ad : Nat → Nat → Nat) (A : Nat → Prop) (p1 : Int32) (σ : Sig) (r : Int32) (σ1 : Sig) (hF : f11_pass p1 σ = some (0, r, σ1)) : MIw l SX Γ ad A yL_pass cL_pass 3 (some .int) [(0, 5, 6, 26), (0, 5, 11, 36)] 8 133 [.ref (ad 0 0), .int p1] σ r σ1 := by
  refine MIw.of (by decide) (Nat.le_of_ble_eq_true rfl) ?_
  intro p e s m args below meth c ls cx hr hk hP hl
  have hl : lv_has ls 3 [(0, .ref (ad 0 0)), (1, .int p1)] := hl
  refine r_aload_n cx dL_pass_0 (lv_at hl 0 rfl) ?_
  refine r_iload_n cx dL_pass_1 (lv_at hl 1 rfl) ?_
  refine r_callVi cx hP (As := [.int p1]) (z11_pass l Γ ad A p1 σ r σ1 hF) mw13_71 ⟨Nat.le_of_ble_eq_true rfl, Nat.le_of_ble_eq_true rfl⟩ (dXr (by decide)) rfl rfl rfl (Nat.le_of_ble_eq_true rfl) hl.1 ⟨Nat.zero_le _, Nat.zero_le _⟩ dL_pass_2 (fun H locs hP => ?_)
  exact r_iret cx hP hr hk dL_pass_5 rfl
