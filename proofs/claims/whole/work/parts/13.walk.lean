/-! printed: the walks -/
set_option maxHeartbeats 4000000 in
set_option maxRecDepth 100000 in
theorem w12_setRate (l : Launch) (Γ : Wc) (ad : Nat → Nat → Nat) (A : Nat → Prop) (p1 : Int32) (σ : Sig) (r : Int32) (σ1 : Sig) (hF : f12_setRate p1 σ = some (r, σ1)) : MI l SM Γ ad A yX12_setRate cX12_setRate 2 (some .int) 3 68 [.ref (ad 0 0), .int p1] σ r σ1 := by
  refine MI.of (by decide) (Nat.le_of_ble_eq_true rfl) ?_
  intro p e s m args below meth c ls cx hr hk hP hl
  have hl : lv_has ls 2 [(0, .ref (ad 0 0)), (1, .int p1)] := hl
  rw [f12_setRate] at hF
  refine r_aload_n cx dX12_setRate_0 (lv_at hl 0 rfl) ?_
  refine r_iconst cx 0 dX12_setRate_1 (by decide) ?_
  refine pf12_63 cx hP dX12_setRate_2 hF (fun s1 H locs hP hF => ?_)
  refine r_aload_n cx dX12_setRate_5 (lv_at hl 0 rfl) ?_
  refine r_iload_n cx dX12_setRate_6 (lv_at hl 1 rfl) ?_
  refine r_iconst cx 1 dX12_setRate_7 (by decide) ?_
  refine r_bipush cx 20 dX12_setRate_8 (by decide) ?_
  refine r_iconst cx 1 dX12_setRate_10 (by decide) ?_
  obtain ⟨v2, s3, hc, hF⟩ := bns_some hF
  refine r_callVi cx hP (As := [.int p1, .int 1, .int 20, .int 1]) (w12_outside l Γ ad A p1 1 20 1 s1 v2 s3 hc) mw12_73 ⟨Nat.le_of_ble_eq_true rfl, Nat.le_of_ble_eq_true rfl⟩ (dMr (by decide)) rfl rfl rfl (Nat.le_of_ble_eq_true rfl) hl.1 ⟨Nat.zero_le _, Nat.zero_le _⟩ dX12_setRate_11 (fun H locs hP => ?_)
  refine r_if_eq cx 21 dX12_setRate_14 (by decide) hF (fun hF => ?_) (fun hF => ?_)
  · refine r_aload_n cx dX12_setRate_21 (lv_at hl 0 rfl) ?_
    refine r_iconst cx 5 dX12_setRate_22 (by decide) ?_
    refine r_iload_n cx dX12_setRate_23 (lv_at hl 1 rfl) ?_
    obtain ⟨v4, s5, hc, hF⟩ := bns_some hF
    refine r_callVi cx hP (As := [.int 5, .int p1]) (w12_change l Γ ad A 5 p1 s3 v4 s5 hc) mw12_139 ⟨Nat.le_of_ble_eq_true rfl, Nat.le_of_ble_eq_true rfl⟩ (dMr (by decide)) rfl rfl rfl (Nat.le_of_ble_eq_true rfl) hl.1 ⟨Nat.zero_le _, Nat.zero_le _⟩ dX12_setRate_24 (fun H locs hP => ?_)
    exact r_iret cx hP hr hk dX12_setRate_27 hF
  · refine r_iconst cx 0 dX12_setRate_17 (by decide) ?_
    refine r_goto cx 27 dX12_setRate_18 (by decide) ?_
    exact r_iret cx hP hr hk dX12_setRate_27 hF
set_option maxHeartbeats 4000000 in
set_option maxRecDepth 100000 in
theorem w12_badBed (l : Launch) (Γ : Wc) (ad : Nat → Nat → Nat) (A : Nat → Prop) (p1 : Int32) (p2 : Int32) (p3 : Int32) (σ : Sig) (r : Int32) (σ1 : Sig) (hF : f12_badBed p1 p2 p3 σ = some (r, σ1)) : MI l SM Γ ad A yX12_badBed cX12_badBed 4 (some .boolean) 1 24 [.ref (ad 0 0), .int p1, .int p2, .int p3] σ r σ1 := by
  refine MI.of (by decide) (Nat.le_of_ble_eq_true rfl) ?_
  intro p e s m args below meth c ls cx hr hk hP hl
  have hl : lv_has ls 4 [(0, .ref (ad 0 0)), (1, .int p1), (2, .int p2), (3, .int p3)] := hl
  rw [f12_badBed] at hF
  generalize hH0 : s.heap = H0 at hP ⊢
  generalize ([] : List Loc) = locs0 at hP ⊢
  clear hH0
  have b36 : ∀ (σ : Sig) (H : Heap) (locs : List Loc) (ls : Array Slot), PS SM Γ ad A s σ H locs → lv_has ls 4 [] → f12_badBed_b36 σ = some (r, σ1) → W p l e (rmz 1 24) s m args below meth c H locs 0 0 (QI SM Γ ad A below args s r σ1) (F0 m 36 ls []) := by
    intro σ H locs ls hP hl hF
    rw [f12_badBed_b36] at hF
    refine r_iconst cx 1 dX12_badBed_36 (by decide) ?_
    refine r_goto cx 41 dX12_badBed_37 (by decide) ?_
    exact r_zret cx hP hr hk (by decide) dX12_badBed_41 hF
  refine r_aload_n cx dX12_badBed_0 (lv_at hl 0 rfl) ?_
  refine r_iload_n cx dX12_badBed_1 (lv_at hl 1 rfl) ?_
  refine r_iconst cx 1 dX12_badBed_2 (by decide) ?_
  refine r_bipush cx 20 dX12_badBed_3 (by decide) ?_
  refine r_iconst cx 2 dX12_badBed_5 (by decide) ?_
  obtain ⟨v1, s2, hc, hF⟩ := bns_some hF
  refine r_callVi cx hP (As := [.int p1, .int 1, .int 20, .int 2]) (w12_outside l Γ ad A p1 1 20 2 σ v1 s2 hc) mw12_73 ⟨Nat.le_of_ble_eq_true rfl, Nat.le_of_ble_eq_true rfl⟩ (dMr (by decide)) rfl rfl rfl (Nat.le_of_ble_eq_true rfl) hl.1 ⟨Nat.zero_le _, Nat.zero_le _⟩ dX12_badBed_6 (fun H locs hP => ?_)
  refine r_if_ne cx 36 dX12_badBed_9 (by decide) hF (fun hF => ?_) (fun hF => ?_)
  · exact b36 s2 _ _ _ hP (lv_sub hl [] rfl) hF
  · refine r_aload_n cx dX12_badBed_12 (lv_at hl 0 rfl) ?_
    refine r_iload_n cx dX12_badBed_13 (lv_at hl 2 rfl) ?_
    refine r_iconst cx 0 dX12_badBed_14 (by decide) ?_
    refine r_bipush cx 99 dX12_badBed_15 (by decide) ?_
    refine r_iconst cx 2 dX12_badBed_17 (by decide) ?_
    obtain ⟨v3, s4, hc, hF⟩ := bns_some hF
    refine r_callVi cx hP (As := [.int p2, .int 0, .int 99, .int 2]) (w12_outside l Γ ad A p2 0 99 2 s2 v3 s4 hc) mw12_73 ⟨Nat.le_of_ble_eq_true rfl, Nat.le_of_ble_eq_true rfl⟩ (dMr (by decide)) rfl rfl rfl (Nat.le_of_ble_eq_true rfl) hl.1 ⟨Nat.zero_le _, Nat.zero_le _⟩ dX12_badBed_18 (fun H locs hP => ?_)
    refine r_if_ne cx 36 dX12_badBed_21 (by decide) hF (fun hF => ?_) (fun hF => ?_)
    · exact b36 s4 _ _ _ hP (lv_sub hl [] rfl) hF
    · refine r_aload_n cx dX12_badBed_24 (lv_at hl 0 rfl) ?_
      refine r_iload_n cx dX12_badBed_25 (lv_at hl 3 rfl) ?_
      refine r_iload_n cx dX12_badBed_26 (lv_at hl 2 rfl) ?_
      refine r_bipush cx 99 dX12_badBed_27 (by decide) ?_
      refine r_iconst cx 2 dX12_badBed_29 (by decide) ?_
      obtain ⟨v5, s6, hc, hF⟩ := bns_some hF
      refine r_callVi cx hP (As := [.int p3, .int p2, .int 99, .int 2]) (w12_outside l Γ ad A p3 p2 99 2 s4 v5 s6 hc) mw12_73 ⟨Nat.le_of_ble_eq_true rfl, Nat.le_of_ble_eq_true rfl⟩ (dMr (by decide)) rfl rfl rfl (Nat.le_of_ble_eq_true rfl) hl.1 ⟨Nat.zero_le _, Nat.zero_le _⟩ dX12_badBed_30 (fun H locs hP => ?_)
      refine r_if_eq cx 40 dX12_badBed_33 (by decide) hF (fun hF => ?_) (fun hF => ?_)
      · refine r_iconst cx 0 dX12_badBed_40 (by decide) ?_
        exact r_zret cx hP hr hk (by decide) dX12_badBed_41 hF
      · exact b36 s6 _ _ _ hP (lv_sub hl [] rfl) hF
set_option maxHeartbeats 4000000 in
set_option maxRecDepth 100000 in
theorem w12_layBed (l : Launch) (Γ : Wc) (ad : Nat → Nat → Nat) (A : Nat → Prop) (p1 : Int32) (p2 : Int32) (p3 : Int32) (p4 : Int32) (σ : Sig) (r : Int32) (σ1 : Sig) (hF : f12_layBed p1 p2 p3 p4 σ = some (r, σ1)) : MI l SM Γ ad A yX12_layBed cX12_layBed 5 (some .int) 2 48 [.ref (ad 0 0), .int p1, .int p2, .int p3, .int p4] σ r σ1 := by
  refine MI.of (by decide) (Nat.le_of_ble_eq_true rfl) ?_
  intro p e s m args below meth c ls cx hr hk hP hl
  have hl : lv_has ls 5 [(0, .ref (ad 0 0)), (1, .int p1), (2, .int p2), (3, .int p3), (4, .int p4)] := hl
  rw [f12_layBed] at hF
  generalize hH0 : s.heap = H0 at hP ⊢
  generalize ([] : List Loc) = locs0 at hP ⊢
  clear hH0
  have b41 : ∀ (x1 : Int32) (x2 : Int32) (x3 : Int32) (x4 : Int32) (t1 : Int32) (σ : Sig) (H : Heap) (locs : List Loc) (ls : Array Slot), PS SM Γ ad A s σ H locs → lv_has ls 5 [(0, .ref (ad 0 0)), (1, .int x1), (2, .int x2), (3, .int x3), (4, .int x4)] → f12_layBed_b41 x1 x2 x3 x4 t1 σ = some (r, σ1) → W p l e (rmz 2 48) s m args below meth c H locs 0 0 (QI SM Γ ad A below args s r σ1) (F0 m 41 ls [.int t1, .ref (ad 0 0)]) := by
    intro x1 x2 x3 x4 t1 σ H locs ls hP hl hF
    rw [f12_layBed_b41] at hF
    refine r_iconst cx 3 dX12_layBed_41 (by decide) ?_
    obtain ⟨v1, s2, hc, hF⟩ := bns_some hF
    refine r_callVi cx hP (As := [.int t1, .int 3]) (w12_raise l Γ ad A t1 3 σ v1 s2 hc) mw12_146 ⟨Nat.le_of_ble_eq_true rfl, Nat.le_of_ble_eq_true rfl⟩ (dMr (by decide)) rfl rfl rfl (Nat.le_of_ble_eq_true rfl) hl.1 ⟨Nat.zero_le _, Nat.zero_le _⟩ dX12_layBed_42 (fun H locs hP => ?_)
    refine r_if_eq cx 50 dX12_layBed_45 (by decide) hF (fun hF => ?_) (fun hF => ?_)
    · refine r_aload_n cx dX12_layBed_50 (lv_at hl 0 rfl) ?_
      refine r_aload_n cx dX12_layBed_51 (lv_at hl 0 rfl) ?_
      refine gf12_9 cx hP dX12_layBed_52 ?_
      obtain ⟨s3, hc, hF⟩ := bnd_some hF
      refine r_callVv cx hP (As := [.ref (ad 0 1)]) (w12_remember l Γ ad A 1 isW_1 s2 s3 hc) mw12_132 ⟨Nat.le_of_ble_eq_true rfl, Nat.le_of_ble_eq_true rfl⟩ (dMr (by decide)) rfl rfl rfl (Nat.le_of_ble_eq_true rfl) hl.1 ⟨Nat.zero_le _, Nat.zero_le _⟩ dX12_layBed_55 (fun H locs hP => ?_)
      refine r_aload_n cx dX12_layBed_58 (lv_at hl 0 rfl) ?_
      refine r_iload_n cx dX12_layBed_59 (lv_at hl 1 rfl) ?_
      refine r_iload_n cx dX12_layBed_60 (lv_at hl 2 rfl) ?_
      refine r_iload_n cx dX12_layBed_61 (lv_at hl 3 rfl) ?_
      refine r_iload cx dX12_layBed_62 (lv_at hl 4 rfl) ?_
      obtain ⟨v4, s5, hc, hF⟩ := bns_some hF
      refine r_callVi cx hP (As := [.int x1, .int x2, .int x3, .int x4]) (w12_makeBed l Γ ad A x1 x2 x3 x4 s3 v4 s5 hc) mw12_42 ⟨Nat.le_of_ble_eq_true rfl, Nat.le_of_ble_eq_true rfl⟩ (dMr (by decide)) rfl rfl rfl (Nat.le_of_ble_eq_true rfl) hl.1 ⟨Nat.zero_le _, Nat.zero_le _⟩ dX12_layBed_64 (fun H locs hP => ?_)
      exact r_iret cx hP hr hk dX12_layBed_67 hF
    · refine r_iconst cx 0 dX12_layBed_48 (by decide) ?_
      exact r_iret cx hP hr hk dX12_layBed_49 hF
  refine r_aload_n cx dX12_layBed_0 (lv_at hl 0 rfl) ?_
  refine r_iconst cx 0 dX12_layBed_1 (by decide) ?_
  refine pf12_63 cx hP dX12_layBed_2 hF (fun s6 H locs hP hF => ?_)
  refine r_aload_n cx dX12_layBed_5 (lv_at hl 0 rfl) ?_
  refine r_iload_n cx dX12_layBed_6 (lv_at hl 1 rfl) ?_
  obtain ⟨v7, s8, hc, hF⟩ := bns_some hF
  refine r_callVi cx hP (As := [.int p1]) (w12_noScent l Γ ad A p1 s6 v7 s8 hc) mw12_136 ⟨Nat.le_of_ble_eq_true rfl, Nat.le_of_ble_eq_true rfl⟩ (dMr (by decide)) rfl rfl rfl (Nat.le_of_ble_eq_true rfl) hl.1 ⟨Nat.zero_le _, Nat.zero_le _⟩ dX12_layBed_7 (fun H locs hP => ?_)
  refine r_if_ne cx 48 dX12_layBed_10 (by decide) hF (fun hF => ?_) (fun hF => ?_)
  · refine r_iconst cx 0 dX12_layBed_48 (by decide) ?_
    exact r_iret cx hP hr hk dX12_layBed_49 hF
  · refine r_aload_n cx dX12_layBed_13 (lv_at hl 0 rfl) ?_
    refine r_iload_n cx dX12_layBed_14 (lv_at hl 2 rfl) ?_
    refine r_iload_n cx dX12_layBed_15 (lv_at hl 3 rfl) ?_
    refine r_iload cx dX12_layBed_16 (lv_at hl 4 rfl) ?_
    obtain ⟨v9, s10, hc, hF⟩ := bns_some hF
    refine r_callVi cx hP (As := [.int p2, .int p3, .int p4]) (w12_badBed l Γ ad A p2 p3 p4 s8 v9 s10 hc) mw12_142 ⟨Nat.le_of_ble_eq_true rfl, Nat.le_of_ble_eq_true rfl⟩ (dMr (by decide)) rfl rfl rfl (Nat.le_of_ble_eq_true rfl) hl.1 ⟨Nat.zero_le _, Nat.zero_le _⟩ dX12_layBed_18 (fun H locs hP => ?_)
    refine r_if_ne cx 48 dX12_layBed_21 (by decide) hF (fun hF => ?_) (fun hF => ?_)
    · refine r_iconst cx 0 dX12_layBed_48 (by decide) ?_
      exact r_iret cx hP hr hk dX12_layBed_49 hF
    · refine r_aload_n cx dX12_layBed_24 (lv_at hl 0 rfl) ?_
      refine r_aload_n cx dX12_layBed_25 (lv_at hl 0 rfl) ?_
      refine gf12_9 cx hP dX12_layBed_26 ?_
      refine r_iconst cx 1 dX12_layBed_29 (by decide) ?_
      refine r_iald cx hP (dMr (by decide)) rfl dX12_layBed_30 hF (fun v11 hF => ?_)
      refine r_bipush cx 8 dX12_layBed_31 (by decide) ?_
      refine r_icmp_ne cx 40 dX12_layBed_33 (by decide) hF (fun hF => ?_) (fun hF => ?_)
      · refine r_iconst cx 0 dX12_layBed_40 (by decide) ?_
        exact b41 p1 p2 p3 p4 0 s10 _ _ _ hP (lv_sub hl [0, 1, 2, 3, 4] rfl) hF
      · refine r_iconst cx 1 dX12_layBed_36 (by decide) ?_
        refine r_goto cx 41 dX12_layBed_37 (by decide) ?_
        exact b41 p1 p2 p3 p4 1 s10 _ _ _ hP (lv_sub hl [0, 1, 2, 3, 4] rfl) hF
set_option maxHeartbeats 4000000 in
set_option maxRecDepth 100000 in
theorem w12_setPeacocks (l : Launch) (Γ : Wc) (ad : Nat → Nat → Nat) (A : Nat → Prop) (p1 : Int32) (p2 : Int32) (σ : Sig) (r : Int32) (σ1 : Sig) (hF : f12_setPeacocks p1 p2 σ = some (r, σ1)) : MI l SM Γ ad A yX12_setPeacocks cX12_setPeacocks 3 (some .int) 2 45 [.ref (ad 0 0), .int p1, .int p2] σ r σ1 := by
  refine MI.of (by decide) (Nat.le_of_ble_eq_true rfl) ?_
  intro p e s m args below meth c ls cx hr hk hP hl
  have hl : lv_has ls 3 [(0, .ref (ad 0 0)), (1, .int p1), (2, .int p2)] := hl
  rw [f12_setPeacocks] at hF
  refine r_aload_n cx dX12_setPeacocks_0 (lv_at hl 0 rfl) ?_
  refine r_iconst cx 0 dX12_setPeacocks_1 (by decide) ?_
  refine pf12_63 cx hP dX12_setPeacocks_2 hF (fun s1 H locs hP hF => ?_)
  refine r_aload_n cx dX12_setPeacocks_5 (lv_at hl 0 rfl) ?_
  refine r_iload_n cx dX12_setPeacocks_6 (lv_at hl 1 rfl) ?_
  refine r_iconst cx 0 dX12_setPeacocks_7 (by decide) ?_
  refine r_bipush cx 95 dX12_setPeacocks_8 (by decide) ?_
  refine r_iconst cx 1 dX12_setPeacocks_10 (by decide) ?_
  obtain ⟨v2, s3, hc, hF⟩ := bns_some hF
  refine r_callVi cx hP (As := [.int p1, .int 0, .int 95, .int 1]) (w12_outside l Γ ad A p1 0 95 1 s1 v2 s3 hc) mw12_73 ⟨Nat.le_of_ble_eq_true rfl, Nat.le_of_ble_eq_true rfl⟩ (dMr (by decide)) rfl rfl rfl (Nat.le_of_ble_eq_true rfl) hl.1 ⟨Nat.zero_le _, Nat.zero_le _⟩ dX12_setPeacocks_11 (fun H locs hP => ?_)
  refine r_if_ne cx 29 dX12_setPeacocks_14 (by decide) hF (fun hF => ?_) (fun hF => ?_)
  · refine r_iconst cx 0 dX12_setPeacocks_29 (by decide) ?_
    exact r_iret cx hP hr hk dX12_setPeacocks_30 hF
  · refine r_aload_n cx dX12_setPeacocks_17 (lv_at hl 0 rfl) ?_
    refine r_iload_n cx dX12_setPeacocks_18 (lv_at hl 2 rfl) ?_
    refine r_iload_n cx dX12_setPeacocks_19 (lv_at hl 1 rfl) ?_
    refine r_bipush cx 95 dX12_setPeacocks_20 (by decide) ?_
    refine r_iconst cx 1 dX12_setPeacocks_22 (by decide) ?_
    obtain ⟨v4, s5, hc, hF⟩ := bns_some hF
    refine r_callVi cx hP (As := [.int p2, .int p1, .int 95, .int 1]) (w12_outside l Γ ad A p2 p1 95 1 s3 v4 s5 hc) mw12_73 ⟨Nat.le_of_ble_eq_true rfl, Nat.le_of_ble_eq_true rfl⟩ (dMr (by decide)) rfl rfl rfl (Nat.le_of_ble_eq_true rfl) hl.1 ⟨Nat.zero_le _, Nat.zero_le _⟩ dX12_setPeacocks_23 (fun H locs hP => ?_)
    refine r_if_eq cx 31 dX12_setPeacocks_26 (by decide) hF (fun hF => ?_) (fun hF => ?_)
    · refine r_aload_n cx dX12_setPeacocks_31 (lv_at hl 0 rfl) ?_
      refine r_aload_n cx dX12_setPeacocks_32 (lv_at hl 0 rfl) ?_
      refine gf12_9 cx hP dX12_setPeacocks_33 ?_
      obtain ⟨s6, hc, hF⟩ := bnd_some hF
      refine r_callVv cx hP (As := [.ref (ad 0 1)]) (w12_remember l Γ ad A 1 isW_1 s5 s6 hc) mw12_132 ⟨Nat.le_of_ble_eq_true rfl, Nat.le_of_ble_eq_true rfl⟩ (dMr (by decide)) rfl rfl rfl (Nat.le_of_ble_eq_true rfl) hl.1 ⟨Nat.zero_le _, Nat.zero_le _⟩ dX12_setPeacocks_36 (fun H locs hP => ?_)
      refine r_aload_n cx dX12_setPeacocks_39 (lv_at hl 0 rfl) ?_
      refine gf12_9 cx hP dX12_setPeacocks_40 ?_
      refine r_bipush cx 7 dX12_setPeacocks_43 (by decide) ?_
      refine r_iload_n cx dX12_setPeacocks_45 (lv_at hl 1 rfl) ?_
      refine r_iast cx hP (dMr (by decide)) (fun _ => rfl) dX12_setPeacocks_46 hF (fun s7 H locs hP hF => ?_)
      refine r_aload_n cx dX12_setPeacocks_47 (lv_at hl 0 rfl) ?_
      refine gf12_9 cx hP dX12_setPeacocks_48 ?_
      refine r_bipush cx 8 dX12_setPeacocks_51 (by decide) ?_
      refine r_iload_n cx dX12_setPeacocks_53 (lv_at hl 2 rfl) ?_
      refine r_iast cx hP (dMr (by decide)) (fun _ => rfl) dX12_setPeacocks_54 hF (fun s8 H locs hP hF => ?_)
      refine r_aload_n cx dX12_setPeacocks_55 (lv_at hl 0 rfl) ?_
      obtain ⟨v9, hc, hF⟩ := bnd_some hF
      refine r_callVi cx hP (As := []) (w12_openTicks l Γ ad A s8 v9 hc) mw12_150 ⟨Nat.le_of_ble_eq_true rfl, Nat.le_of_ble_eq_true rfl⟩ (dMr (by decide)) rfl rfl rfl (Nat.le_of_ble_eq_true rfl) hl.1 ⟨Nat.zero_le _, Nat.zero_le _⟩ dX12_setPeacocks_56 (fun H locs hP => ?_)
      exact r_iret cx hP hr hk dX12_setPeacocks_59 hF
    · refine r_iconst cx 0 dX12_setPeacocks_29 (by decide) ?_
      exact r_iret cx hP hr hk dX12_setPeacocks_30 hF
set_option maxHeartbeats 4000000 in
set_option maxRecDepth 100000 in
theorem w12_setPause (l : Launch) (Γ : Wc) (ad : Nat → Nat → Nat) (A : Nat → Prop) (p1 : Int32) (σ : Sig) (r : Int32) (σ1 : Sig) (hF : f12_setPause p1 σ = some (r, σ1)) : MI l SM Γ ad A yX12_setPause cX12_setPause 2 (some .int) 3 68 [.ref (ad 0 0), .int p1] σ r σ1 := by
  refine MI.of (by decide) (Nat.le_of_ble_eq_true rfl) ?_
  intro p e s m args below meth c ls cx hr hk hP hl
  have hl : lv_has ls 2 [(0, .ref (ad 0 0)), (1, .int p1)] := hl
  rw [f12_setPause] at hF
  refine r_aload_n cx dX12_setPause_0 (lv_at hl 0 rfl) ?_
  refine r_iconst cx 0 dX12_setPause_1 (by decide) ?_
  refine pf12_63 cx hP dX12_setPause_2 hF (fun s1 H locs hP hF => ?_)
  refine r_aload_n cx dX12_setPause_5 (lv_at hl 0 rfl) ?_
  refine r_iload_n cx dX12_setPause_6 (lv_at hl 1 rfl) ?_
  refine r_iconst cx 0 dX12_setPause_7 (by decide) ?_
  refine r_bipush cx 8 dX12_setPause_8 (by decide) ?_
  refine r_iconst cx 1 dX12_setPause_10 (by decide) ?_
  obtain ⟨v2, s3, hc, hF⟩ := bns_some hF
  refine r_callVi cx hP (As := [.int p1, .int 0, .int 8, .int 1]) (w12_outside l Γ ad A p1 0 8 1 s1 v2 s3 hc) mw12_73 ⟨Nat.le_of_ble_eq_true rfl, Nat.le_of_ble_eq_true rfl⟩ (dMr (by decide)) rfl rfl rfl (Nat.le_of_ble_eq_true rfl) hl.1 ⟨Nat.zero_le _, Nat.zero_le _⟩ dX12_setPause_11 (fun H locs hP => ?_)
  refine r_if_eq cx 21 dX12_setPause_14 (by decide) hF (fun hF => ?_) (fun hF => ?_)
  · refine r_aload_n cx dX12_setPause_21 (lv_at hl 0 rfl) ?_
    refine r_bipush cx 6 dX12_setPause_22 (by decide) ?_
    refine r_iload_n cx dX12_setPause_24 (lv_at hl 1 rfl) ?_
    obtain ⟨v4, s5, hc, hF⟩ := bns_some hF
    refine r_callVi cx hP (As := [.int 6, .int p1]) (w12_change l Γ ad A 6 p1 s3 v4 s5 hc) mw12_139 ⟨Nat.le_of_ble_eq_true rfl, Nat.le_of_ble_eq_true rfl⟩ (dMr (by decide)) rfl rfl rfl (Nat.le_of_ble_eq_true rfl) hl.1 ⟨Nat.zero_le _, Nat.zero_le _⟩ dX12_setPause_25 (fun H locs hP => ?_)
    exact r_iret cx hP hr hk dX12_setPause_28 hF
  · refine r_iconst cx 0 dX12_setPause_17 (by decide) ?_
    refine r_goto cx 28 dX12_setPause_18 (by decide) ?_
    exact r_iret cx hP hr hk dX12_setPause_28 hF
set_option maxHeartbeats 4000000 in
set_option maxRecDepth 100000 in
theorem w12_allScents (l : Launch) (Γ : Wc) (ad : Nat → Nat → Nat) (A : Nat → Prop)  (σ : Sig) (r : Int32) (hF : f12_allScents  σ = some r) : MI l SM Γ ad A yX12_allScents cX12_allScents 1 (some .int) 0 0 [.ref (ad 0 0)] σ r σ := by
  refine MI.of (by decide) (Nat.le_of_ble_eq_true rfl) ?_
  intro p e s m args below meth c ls cx hr hk hP hl
  have hl : lv_has ls 1 [(0, .ref (ad 0 0))] := hl
  rw [f12_allScents] at hF
  refine r_iconst cx 1 dX12_allScents_0 (by decide) ?_
  refine r_aload_n cx dX12_allScents_1 (lv_at hl 0 rfl) ?_
  refine gf12_9 cx hP dX12_allScents_2 ?_
  refine r_iconst cx 0 dX12_allScents_5 (by decide) ?_
  refine r_iald cx hP (dMr (by decide)) rfl dX12_allScents_6 hF (fun v1 hF => ?_)
  refine r_ishl cx dX12_allScents_7 hF (fun v2 hF => ?_)
  refine r_iconst cx 1 dX12_allScents_8 (by decide) ?_
  refine r_isub cx dX12_allScents_9 hF (fun v3 hF => ?_)
  exact r_iret cx hP hr hk dX12_allScents_10 (prF hF)
set_option maxHeartbeats 4000000 in
set_option maxRecDepth 100000 in
theorem w12_badPass (l : Launch) (Γ : Wc) (ad : Nat → Nat → Nat) (A : Nat → Prop) (p1 : Int32) (p2 : Int32) (p3 : Int32) (σ : Sig) (r : Int32) (σ1 : Sig) (hF : f12_badPass p1 p2 p3 σ = some (r, σ1)) : MI l SM Γ ad A yX12_badPass cX12_badPass 4 (some .boolean) 1 24 [.ref (ad 0 0), .int p1, .int p2, .int p3] σ r σ1 := by
  refine MI.of (by decide) (Nat.le_of_ble_eq_true rfl) ?_
  intro p e s m args below meth c ls cx hr hk hP hl
  have hl : lv_has ls 4 [(0, .ref (ad 0 0)), (1, .int p1), (2, .int p2), (3, .int p3)] := hl
  rw [f12_badPass] at hF
  generalize hH0 : s.heap = H0 at hP ⊢
  generalize ([] : List Loc) = locs0 at hP ⊢
  clear hH0
  have b37 : ∀ (σ : Sig) (H : Heap) (locs : List Loc) (ls : Array Slot), PS SM Γ ad A s σ H locs → lv_has ls 4 [] → f12_badPass_b37 σ = some (r, σ1) → W p l e (rmz 1 24) s m args below meth c H locs 0 0 (QI SM Γ ad A below args s r σ1) (F0 m 37 ls []) := by
    intro σ H locs ls hP hl hF
    rw [f12_badPass_b37] at hF
    refine r_iconst cx 1 dX12_badPass_37 (by decide) ?_
    refine r_goto cx 42 dX12_badPass_38 (by decide) ?_
    exact r_zret cx hP hr hk (by decide) dX12_badPass_42 hF
  refine r_aload_n cx dX12_badPass_0 (lv_at hl 0 rfl) ?_
  refine r_iload_n cx dX12_badPass_1 (lv_at hl 1 rfl) ?_
  refine r_iconst cx 1 dX12_badPass_2 (by decide) ?_
  refine r_aload_n cx dX12_badPass_3 (lv_at hl 0 rfl) ?_
  obtain ⟨v1, hc, hF⟩ := bnd_some hF
  refine r_callVi cx hP (As := []) (w12_allScents l Γ ad A σ v1 hc) mw12_153 ⟨Nat.le_of_ble_eq_true rfl, Nat.le_of_ble_eq_true rfl⟩ (dMr (by decide)) rfl rfl rfl (Nat.le_of_ble_eq_true rfl) hl.1 ⟨Nat.zero_le _, Nat.zero_le _⟩ dX12_badPass_4 (fun H locs hP => ?_)
  refine r_iconst cx 1 dX12_badPass_7 (by decide) ?_
  obtain ⟨v2, s3, hc, hF⟩ := bns_some hF
  refine r_callVi cx hP (As := [.int p1, .int 1, .int v1, .int 1]) (w12_outside l Γ ad A p1 1 v1 1 σ v2 s3 hc) mw12_73 ⟨Nat.le_of_ble_eq_true rfl, Nat.le_of_ble_eq_true rfl⟩ (dMr (by decide)) rfl rfl rfl (Nat.le_of_ble_eq_true rfl) hl.1 ⟨Nat.zero_le _, Nat.zero_le _⟩ dX12_badPass_8 (fun H locs hP => ?_)
  refine r_if_ne cx 37 dX12_badPass_11 (by decide) hF (fun hF => ?_) (fun hF => ?_)
  · exact b37 s3 _ _ _ hP (lv_sub hl [] rfl) hF
  · refine r_aload_n cx dX12_badPass_14 (lv_at hl 0 rfl) ?_
    refine r_iload_n cx dX12_badPass_15 (lv_at hl 2 rfl) ?_
    refine r_iconst cx 1 dX12_badPass_16 (by decide) ?_
    refine r_bipush cx 14 dX12_badPass_17 (by decide) ?_
    refine r_iconst cx 1 dX12_badPass_19 (by decide) ?_
    obtain ⟨v4, s5, hc, hF⟩ := bns_some hF
    refine r_callVi cx hP (As := [.int p2, .int 1, .int 14, .int 1]) (w12_outside l Γ ad A p2 1 14 1 s3 v4 s5 hc) mw12_73 ⟨Nat.le_of_ble_eq_true rfl, Nat.le_of_ble_eq_true rfl⟩ (dMr (by decide)) rfl rfl rfl (Nat.le_of_ble_eq_true rfl) hl.1 ⟨Nat.zero_le _, Nat.zero_le _⟩ dX12_badPass_20 (fun H locs hP => ?_)
    refine r_if_ne cx 37 dX12_badPass_23 (by decide) hF (fun hF => ?_) (fun hF => ?_)
    · exact b37 s5 _ _ _ hP (lv_sub hl [] rfl) hF
    · refine r_aload_n cx dX12_badPass_26 (lv_at hl 0 rfl) ?_
      refine r_iload_n cx dX12_badPass_27 (lv_at hl 3 rfl) ?_
      refine r_iconst cx 0 dX12_badPass_28 (by decide) ?_
      refine r_iconst cx 1 dX12_badPass_29 (by decide) ?_
      refine r_iconst cx 1 dX12_badPass_30 (by decide) ?_
      obtain ⟨v6, s7, hc, hF⟩ := bns_some hF
      refine r_callVi cx hP (As := [.int p3, .int 0, .int 1, .int 1]) (w12_outside l Γ ad A p3 0 1 1 s5 v6 s7 hc) mw12_73 ⟨Nat.le_of_ble_eq_true rfl, Nat.le_of_ble_eq_true rfl⟩ (dMr (by decide)) rfl rfl rfl (Nat.le_of_ble_eq_true rfl) hl.1 ⟨Nat.zero_le _, Nat.zero_le _⟩ dX12_badPass_31 (fun H locs hP => ?_)
      refine r_if_eq cx 41 dX12_badPass_34 (by decide) hF (fun hF => ?_) (fun hF => ?_)
      · refine r_iconst cx 0 dX12_badPass_41 (by decide) ?_
        exact r_zret cx hP hr hk (by decide) dX12_badPass_42 hF
      · exact b37 s7 _ _ _ hP (lv_sub hl [] rfl) hF
set_option maxHeartbeats 4000000 in
set_option maxRecDepth 100000 in
theorem w12_sell (l : Launch) (Γ : Wc) (ad : Nat → Nat → Nat) (A : Nat → Prop) (p1 : Int32) (p2 : Int32) (p3 : Int32) (p4 : Int32) (σ : Sig) (r : Int32) (σ1 : Sig) (hF : f12_sell p1 p2 p3 p4 σ = some (r, σ1)) : MI l SM Γ ad A yX12_sell cX12_sell 5 (some .int) 3 72 [.ref (ad 0 0), .int p1, .int p2, .int p3, .int p4] σ r σ1 := by
  refine MI.of (by decide) (Nat.le_of_ble_eq_true rfl) ?_
  intro p e s m args below meth c ls cx hr hk hP hl
  have hl : lv_has ls 5 [(0, .ref (ad 0 0)), (1, .int p1), (2, .int p2), (3, .int p3), (4, .int p4)] := hl
  rw [f12_sell] at hF
  refine r_aload_n cx dX12_sell_0 (lv_at hl 0 rfl) ?_
  refine r_iconst cx 0 dX12_sell_1 (by decide) ?_
  refine pf12_63 cx hP dX12_sell_2 hF (fun s1 H locs hP hF => ?_)
  refine r_aload_n cx dX12_sell_5 (lv_at hl 0 rfl) ?_
  refine r_iload_n cx dX12_sell_6 (lv_at hl 1 rfl) ?_
  refine r_iload_n cx dX12_sell_7 (lv_at hl 3 rfl) ?_
  refine r_iload cx dX12_sell_8 (lv_at hl 4 rfl) ?_
  obtain ⟨v2, s3, hc, hF⟩ := bns_some hF
  refine r_callVi cx hP (As := [.int p1, .int p3, .int p4]) (w12_badPass l Γ ad A p1 p3 p4 s1 v2 s3 hc) mw12_156 ⟨Nat.le_of_ble_eq_true rfl, Nat.le_of_ble_eq_true rfl⟩ (dMr (by decide)) rfl rfl rfl (Nat.le_of_ble_eq_true rfl) hl.1 ⟨Nat.zero_le _, Nat.zero_le _⟩ dX12_sell_10 (fun H locs hP => ?_)
  refine r_if_ne cx 43 dX12_sell_13 (by decide) hF (fun hF => ?_) (fun hF => ?_)
  · refine r_iconst cx 0 dX12_sell_43 (by decide) ?_
    exact r_iret cx hP hr hk dX12_sell_44 hF
  · refine r_aload_n cx dX12_sell_16 (lv_at hl 0 rfl) ?_
    refine r_iload_n cx dX12_sell_17 (lv_at hl 2 rfl) ?_
    refine r_aload_n cx dX12_sell_18 (lv_at hl 0 rfl) ?_
    obtain ⟨v4, hc, hF⟩ := bnd_some hF
    refine r_callVi cx hP (As := []) (w12_today l Γ ad A s3 v4 hc) mw12_81 ⟨Nat.le_of_ble_eq_true rfl, Nat.le_of_ble_eq_true rfl⟩ (dMr (by decide)) rfl rfl rfl (Nat.le_of_ble_eq_true rfl) hl.1 ⟨Nat.zero_le _, Nat.zero_le _⟩ dX12_sell_19 (fun H locs hP => ?_)
    refine r_bipush cx 99 dX12_sell_22 (by decide) ?_
    refine r_iconst cx 1 dX12_sell_24 (by decide) ?_
    obtain ⟨v5, s6, hc, hF⟩ := bns_some hF
    refine r_callVi cx hP (As := [.int p2, .int v4, .int 99, .int 1]) (w12_outside l Γ ad A p2 v4 99 1 s3 v5 s6 hc) mw12_73 ⟨Nat.le_of_ble_eq_true rfl, Nat.le_of_ble_eq_true rfl⟩ (dMr (by decide)) rfl rfl rfl (Nat.le_of_ble_eq_true rfl) hl.1 ⟨Nat.zero_le _, Nat.zero_le _⟩ dX12_sell_25 (fun H locs hP => ?_)
    refine r_if_ne cx 43 dX12_sell_28 (by decide) hF (fun hF => ?_) (fun hF => ?_)
    · refine r_iconst cx 0 dX12_sell_43 (by decide) ?_
      exact r_iret cx hP hr hk dX12_sell_44 hF
    · refine r_aload_n cx dX12_sell_31 (lv_at hl 0 rfl) ?_
      refine r_aload_n cx dX12_sell_32 (lv_at hl 0 rfl) ?_
      obtain ⟨v7, hc, hF⟩ := bnd_some hF
      refine r_callVi cx hP (As := []) (w12_soldOut l Γ ad A s6 v7 hc) mw12_159 ⟨Nat.le_of_ble_eq_true rfl, Nat.le_of_ble_eq_true rfl⟩ (dMr (by decide)) rfl rfl rfl (Nat.le_of_ble_eq_true rfl) hl.1 ⟨Nat.zero_le _, Nat.zero_le _⟩ dX12_sell_33 (fun H locs hP => ?_)
      refine r_iconst cx 2 dX12_sell_36 (by decide) ?_
      obtain ⟨v8, s9, hc, hF⟩ := bns_some hF
      refine r_callVi cx hP (As := [.int v7, .int 2]) (w12_raise l Γ ad A v7 2 s6 v8 s9 hc) mw12_146 ⟨Nat.le_of_ble_eq_true rfl, Nat.le_of_ble_eq_true rfl⟩ (dMr (by decide)) rfl rfl rfl (Nat.le_of_ble_eq_true rfl) hl.1 ⟨Nat.zero_le _, Nat.zero_le _⟩ dX12_sell_37 (fun H locs hP => ?_)
      refine r_if_eq cx 45 dX12_sell_40 (by decide) hF (fun hF => ?_) (fun hF => ?_)
      · refine r_aload_n cx dX12_sell_45 (lv_at hl 0 rfl) ?_
        refine r_aload_n cx dX12_sell_46 (lv_at hl 0 rfl) ?_
        refine gf12_9 cx hP dX12_sell_47 ?_
        obtain ⟨s10, hc, hF⟩ := bnd_some hF
        refine r_callVv cx hP (As := [.ref (ad 0 1)]) (w12_remember l Γ ad A 1 isW_1 s9 s10 hc) mw12_132 ⟨Nat.le_of_ble_eq_true rfl, Nat.le_of_ble_eq_true rfl⟩ (dMr (by decide)) rfl rfl rfl (Nat.le_of_ble_eq_true rfl) hl.1 ⟨Nat.zero_le _, Nat.zero_le _⟩ dX12_sell_50 (fun H locs hP => ?_)
        refine r_aload_n cx dX12_sell_53 (lv_at hl 0 rfl) ?_
        refine r_iload_n cx dX12_sell_54 (lv_at hl 1 rfl) ?_
        refine r_iload_n cx dX12_sell_55 (lv_at hl 2 rfl) ?_
        refine r_iload_n cx dX12_sell_56 (lv_at hl 3 rfl) ?_
        refine r_iload cx dX12_sell_57 (lv_at hl 4 rfl) ?_
        obtain ⟨v11, s12, hc, hF⟩ := bns_some hF
        refine r_callVi cx hP (As := [.int p1, .int p2, .int p3, .int p4]) (w12_makePass l Γ ad A p1 p2 p3 p4 s10 v11 s12 hc) mw12_46 ⟨Nat.le_of_ble_eq_true rfl, Nat.le_of_ble_eq_true rfl⟩ (dMr (by decide)) rfl rfl rfl (Nat.le_of_ble_eq_true rfl) hl.1 ⟨Nat.zero_le _, Nat.zero_le _⟩ dX12_sell_59 (fun H locs hP => ?_)
        exact r_iret cx hP hr hk dX12_sell_62 hF
      · refine r_iconst cx 0 dX12_sell_43 (by decide) ?_
        exact r_iret cx hP hr hk dX12_sell_44 hF
set_option maxHeartbeats 4000000 in
set_option maxRecDepth 100000 in
theorem w12_extend (l : Launch) (Γ : Wc) (ad : Nat → Nat → Nat) (A : Nat → Prop) (p1 : Int32) (p2 : Int32) (σ : Sig) (r : Int32) (σ1 : Sig) (hF : f12_extend p1 p2 σ = some (r, σ1)) : MI l SM Γ ad A yX12_extend cX12_extend 3 (some .int) 3 64 [.ref (ad 0 0), .int p1, .int p2] σ r σ1 := by
  refine MI.of (by decide) (Nat.le_of_ble_eq_true rfl) ?_
  intro p e s m args below meth c ls cx hr hk hP hl
  have hl : lv_has ls 3 [(0, .ref (ad 0 0)), (1, .int p1), (2, .int p2)] := hl
  rw [f12_extend] at hF
  generalize hH0 : s.heap = H0 at hP ⊢
  generalize ([] : List Loc) = locs0 at hP ⊢
  clear hH0
  have b52 : ∀ (x1 : Int32) (x2 : Int32) (t1 : Int32) (σ : Sig) (H : Heap) (locs : List Loc) (ls : Array Slot), PS SM Γ ad A s σ H locs → lv_has ls 3 [(0, .ref (ad 0 0)), (1, .int x1), (2, .int x2)] → f12_extend_b52 x1 x2 t1 σ = some (r, σ1) → W p l e (rmz 3 64) s m args below meth c H locs 0 0 (QI SM Γ ad A below args s r σ1) (F0 m 52 ls [.int t1, .ref (ad 0 0)]) := by
    intro x1 x2 t1 σ H locs ls hP hl hF
    rw [f12_extend_b52] at hF
    refine r_iconst cx 3 dX12_extend_52 (by decide) ?_
    obtain ⟨v1, s2, hc, hF⟩ := bns_some hF
    refine r_callVi cx hP (As := [.int t1, .int 3]) (w12_raise l Γ ad A t1 3 σ v1 s2 hc) mw12_146 ⟨Nat.le_of_ble_eq_true rfl, Nat.le_of_ble_eq_true rfl⟩ (dMr (by decide)) rfl rfl rfl (Nat.le_of_ble_eq_true rfl) hl.1 ⟨Nat.zero_le _, Nat.zero_le _⟩ dX12_extend_53 (fun H locs hP => ?_)
    refine r_if_eq cx 61 dX12_extend_56 (by decide) hF (fun hF => ?_) (fun hF => ?_)
    · refine r_aload_n cx dX12_extend_61 (lv_at hl 0 rfl) ?_
      refine r_aload_n cx dX12_extend_62 (lv_at hl 0 rfl) ?_
      refine gf12_9 cx hP dX12_extend_63 ?_
      obtain ⟨s3, hc, hF⟩ := bnd_some hF
      refine r_callVv cx hP (As := [.ref (ad 0 1)]) (w12_remember l Γ ad A 1 isW_1 s2 s3 hc) mw12_132 ⟨Nat.le_of_ble_eq_true rfl, Nat.le_of_ble_eq_true rfl⟩ (dMr (by decide)) rfl rfl rfl (Nat.le_of_ble_eq_true rfl) hl.1 ⟨Nat.zero_le _, Nat.zero_le _⟩ dX12_extend_66 (fun H locs hP => ?_)
      refine r_aload_n cx dX12_extend_69 (lv_at hl 0 rfl) ?_
      refine r_iload_n cx dX12_extend_70 (lv_at hl 1 rfl) ?_
      refine r_aload_n cx dX12_extend_71 (lv_at hl 0 rfl) ?_
      refine r_iload_n cx dX12_extend_72 (lv_at hl 1 rfl) ?_
      refine r_iconst cx 0 dX12_extend_73 (by decide) ?_
      obtain ⟨v4, hc, hF⟩ := bnd_some hF
      refine r_callVi cx hP (As := [.int x1, .int 0]) (w12_of l Γ ad A x1 0 s3 v4 hc) mw12_88 ⟨Nat.le_of_ble_eq_true rfl, Nat.le_of_ble_eq_true rfl⟩ (dMr (by decide)) rfl rfl rfl (Nat.le_of_ble_eq_true rfl) hl.1 ⟨Nat.zero_le _, Nat.zero_le _⟩ dX12_extend_74 (fun H locs hP => ?_)
      refine r_aload_n cx dX12_extend_77 (lv_at hl 0 rfl) ?_
      refine r_iload_n cx dX12_extend_78 (lv_at hl 1 rfl) ?_
      refine r_iconst cx 2 dX12_extend_79 (by decide) ?_
      obtain ⟨v5, hc, hF⟩ := bnd_some hF
      refine r_callVi cx hP (As := [.int x1, .int 2]) (w12_of l Γ ad A x1 2 s3 v5 hc) mw12_88 ⟨Nat.le_of_ble_eq_true rfl, Nat.le_of_ble_eq_true rfl⟩ (dMr (by decide)) rfl rfl rfl (Nat.le_of_ble_eq_true rfl) hl.1 ⟨Nat.zero_le _, Nat.zero_le _⟩ dX12_extend_80 (fun H locs hP => ?_)
      refine r_iload_n cx dX12_extend_83 (lv_at hl 2 rfl) ?_
      refine r_iadd cx dX12_extend_84 hF (fun v6 hF => ?_)
      obtain ⟨v7, s8, hc, hF⟩ := bns_some hF
      refine r_callVi cx hP (As := [.int x1, .int v4, .int v6]) (w12_renew l Γ ad A x1 v4 v6 s3 v7 s8 hc) mw12_169 ⟨Nat.le_of_ble_eq_true rfl, Nat.le_of_ble_eq_true rfl⟩ (dMr (by decide)) rfl rfl rfl (Nat.le_of_ble_eq_true rfl) hl.1 ⟨Nat.zero_le _, Nat.zero_le _⟩ dX12_extend_85 (fun H locs hP => ?_)
      exact r_iret cx hP hr hk dX12_extend_88 hF
    · refine r_iconst cx 0 dX12_extend_59 (by decide) ?_
      exact r_iret cx hP hr hk dX12_extend_60 hF
  have b47 : ∀ (x1 : Int32) (x2 : Int32) (σ : Sig) (H : Heap) (locs : List Loc) (ls : Array Slot), PS SM Γ ad A s σ H locs → lv_has ls 3 [(0, .ref (ad 0 0)), (1, .int x1), (2, .int x2)] → f12_extend_b47 x1 x2 σ = some (r, σ1) → W p l e (rmz 3 64) s m args below meth c H locs 0 0 (QI SM Γ ad A below args s r σ1) (F0 m 47 ls [.ref (ad 0 0)]) := by
    intro x1 x2 σ H locs ls hP hl hF
    rw [f12_extend_b47] at hF
    refine r_iconst cx 1 dX12_extend_47 (by decide) ?_
    refine r_goto cx 52 dX12_extend_48 (by decide) ?_
    exact b52 x1 x2 1 σ _ _ _ hP (lv_sub hl [0, 1, 2] rfl) hF
  refine r_aload_n cx dX12_extend_0 (lv_at hl 0 rfl) ?_
  refine r_iconst cx 0 dX12_extend_1 (by decide) ?_
  refine pf12_63 cx hP dX12_extend_2 hF (fun s9 H locs hP hF => ?_)
  refine r_aload_n cx dX12_extend_5 (lv_at hl 0 rfl) ?_
  refine r_iload_n cx dX12_extend_6 (lv_at hl 1 rfl) ?_
  obtain ⟨v10, s11, hc, hF⟩ := bns_some hF
  refine r_callVi cx hP (As := [.int p1]) (w12_noPass l Γ ad A p1 s9 v10 s11 hc) mw12_163 ⟨Nat.le_of_ble_eq_true rfl, Nat.le_of_ble_eq_true rfl⟩ (dMr (by decide)) rfl rfl rfl (Nat.le_of_ble_eq_true rfl) hl.1 ⟨Nat.zero_le _, Nat.zero_le _⟩ dX12_extend_7 (fun H locs hP => ?_)
  refine r_if_ne cx 59 dX12_extend_10 (by decide) hF (fun hF => ?_) (fun hF => ?_)
  · refine r_iconst cx 0 dX12_extend_59 (by decide) ?_
    exact r_iret cx hP hr hk dX12_extend_60 hF
  · refine r_aload_n cx dX12_extend_13 (lv_at hl 0 rfl) ?_
    refine r_iload_n cx dX12_extend_14 (lv_at hl 2 rfl) ?_
    refine r_iconst cx 1 dX12_extend_15 (by decide) ?_
    refine r_bipush cx 13 dX12_extend_16 (by decide) ?_
    refine r_iconst cx 2 dX12_extend_18 (by decide) ?_
    obtain ⟨v12, s13, hc, hF⟩ := bns_some hF
    refine r_callVi cx hP (As := [.int p2, .int 1, .int 13, .int 2]) (w12_outside l Γ ad A p2 1 13 2 s11 v12 s13 hc) mw12_73 ⟨Nat.le_of_ble_eq_true rfl, Nat.le_of_ble_eq_true rfl⟩ (dMr (by decide)) rfl rfl rfl (Nat.le_of_ble_eq_true rfl) hl.1 ⟨Nat.zero_le _, Nat.zero_le _⟩ dX12_extend_19 (fun H locs hP => ?_)
    refine r_if_ne cx 59 dX12_extend_22 (by decide) hF (fun hF => ?_) (fun hF => ?_)
    · refine r_iconst cx 0 dX12_extend_59 (by decide) ?_
      exact r_iret cx hP hr hk dX12_extend_60 hF
    · refine r_aload_n cx dX12_extend_25 (lv_at hl 0 rfl) ?_
      refine r_aload_n cx dX12_extend_26 (lv_at hl 0 rfl) ?_
      refine r_iload_n cx dX12_extend_27 (lv_at hl 1 rfl) ?_
      obtain ⟨v14, hc, hF⟩ := bnd_some hF
      refine r_callVi cx hP (As := [.int p1]) (w12_isOver l Γ ad A p1 s13 v14 hc) mw12_166 ⟨Nat.le_of_ble_eq_true rfl, Nat.le_of_ble_eq_true rfl⟩ (dMr (by decide)) rfl rfl rfl (Nat.le_of_ble_eq_true rfl) hl.1 ⟨Nat.zero_le _, Nat.zero_le _⟩ dX12_extend_28 (fun H locs hP => ?_)
      refine r_if_ne cx 47 dX12_extend_31 (by decide) hF (fun hF => ?_) (fun hF => ?_)
      · exact b47 p1 p2 s13 _ _ _ hP (lv_sub hl [0, 1, 2] rfl) hF
      · refine r_aload_n cx dX12_extend_34 (lv_at hl 0 rfl) ?_
        refine r_iload_n cx dX12_extend_35 (lv_at hl 1 rfl) ?_
        refine r_iconst cx 2 dX12_extend_36 (by decide) ?_
        obtain ⟨v15, hc, hF⟩ := bnd_some hF
        refine r_callVi cx hP (As := [.int p1, .int 2]) (w12_of l Γ ad A p1 2 s13 v15 hc) mw12_88 ⟨Nat.le_of_ble_eq_true rfl, Nat.le_of_ble_eq_true rfl⟩ (dMr (by decide)) rfl rfl rfl (Nat.le_of_ble_eq_true rfl) hl.1 ⟨Nat.zero_le _, Nat.zero_le _⟩ dX12_extend_37 (fun H locs hP => ?_)
        refine r_iload_n cx dX12_extend_40 (lv_at hl 2 rfl) ?_
        refine r_iadd cx dX12_extend_41 hF (fun v16 hF => ?_)
        refine r_bipush cx 14 dX12_extend_42 (by decide) ?_
        refine r_icmp_le cx 51 dX12_extend_44 (by decide) hF (fun hF => ?_) (fun hF => ?_)
        · refine r_iconst cx 0 dX12_extend_51 (by decide) ?_
          exact b52 p1 p2 0 s13 _ _ _ hP (lv_sub hl [0, 1, 2] rfl) hF
        · exact b47 p1 p2 s13 _ _ _ hP (lv_sub hl [0, 1, 2] rfl) hF
set_option maxHeartbeats 4000000 in
set_option maxRecDepth 100000 in
theorem w12_addScent (l : Launch) (Γ : Wc) (ad : Nat → Nat → Nat) (A : Nat → Prop) (p1 : Int32) (p2 : Int32) (σ : Sig) (r : Int32) (σ1 : Sig) (hF : f12_addScent p1 p2 σ = some (r, σ1)) : MI l SM Γ ad A yX12_addScent cX12_addScent 3 (some .int) 3 64 [.ref (ad 0 0), .int p1, .int p2] σ r σ1 := by
  refine MI.of (by decide) (Nat.le_of_ble_eq_true rfl) ?_
  intro p e s m args below meth c ls cx hr hk hP hl
  have hl : lv_has ls 3 [(0, .ref (ad 0 0)), (1, .int p1), (2, .int p2)] := hl
  rw [f12_addScent] at hF
  generalize hH0 : s.heap = H0 at hP ⊢
  generalize ([] : List Loc) = locs0 at hP ⊢
  clear hH0
  have b49 : ∀ (x1 : Int32) (x2 : Int32) (t1 : Int32) (σ : Sig) (H : Heap) (locs : List Loc) (ls : Array Slot), PS SM Γ ad A s σ H locs → lv_has ls 3 [(0, .ref (ad 0 0)), (1, .int x1), (2, .int x2)] → f12_addScent_b49 x1 x2 t1 σ = some (r, σ1) → W p l e (rmz 3 64) s m args below meth c H locs 0 0 (QI SM Γ ad A below args s r σ1) (F0 m 49 ls [.int t1, .ref (ad 0 0)]) := by
    intro x1 x2 t1 σ H locs ls hP hl hF
    rw [f12_addScent_b49] at hF
    refine r_iconst cx 2 dX12_addScent_49 (by decide) ?_
    obtain ⟨v1, s2, hc, hF⟩ := bns_some hF
    refine r_callVi cx hP (As := [.int t1, .int 2]) (w12_raise l Γ ad A t1 2 σ v1 s2 hc) mw12_146 ⟨Nat.le_of_ble_eq_true rfl, Nat.le_of_ble_eq_true rfl⟩ (dMr (by decide)) rfl rfl rfl (Nat.le_of_ble_eq_true rfl) hl.1 ⟨Nat.zero_le _, Nat.zero_le _⟩ dX12_addScent_50 (fun H locs hP => ?_)
    refine r_if_eq cx 58 dX12_addScent_53 (by decide) hF (fun hF => ?_) (fun hF => ?_)
    · refine r_aload_n cx dX12_addScent_58 (lv_at hl 0 rfl) ?_
      refine r_aload_n cx dX12_addScent_59 (lv_at hl 0 rfl) ?_
      refine gf12_9 cx hP dX12_addScent_60 ?_
      obtain ⟨s3, hc, hF⟩ := bnd_some hF
      refine r_callVv cx hP (As := [.ref (ad 0 1)]) (w12_remember l Γ ad A 1 isW_1 s2 s3 hc) mw12_132 ⟨Nat.le_of_ble_eq_true rfl, Nat.le_of_ble_eq_true rfl⟩ (dMr (by decide)) rfl rfl rfl (Nat.le_of_ble_eq_true rfl) hl.1 ⟨Nat.zero_le _, Nat.zero_le _⟩ dX12_addScent_63 (fun H locs hP => ?_)
      refine r_aload_n cx dX12_addScent_66 (lv_at hl 0 rfl) ?_
      refine r_iload_n cx dX12_addScent_67 (lv_at hl 1 rfl) ?_
      refine r_aload_n cx dX12_addScent_68 (lv_at hl 0 rfl) ?_
      refine r_iload_n cx dX12_addScent_69 (lv_at hl 1 rfl) ?_
      refine r_iconst cx 0 dX12_addScent_70 (by decide) ?_
      obtain ⟨v4, hc, hF⟩ := bnd_some hF
      refine r_callVi cx hP (As := [.int x1, .int 0]) (w12_of l Γ ad A x1 0 s3 v4 hc) mw12_88 ⟨Nat.le_of_ble_eq_true rfl, Nat.le_of_ble_eq_true rfl⟩ (dMr (by decide)) rfl rfl rfl (Nat.le_of_ble_eq_true rfl) hl.1 ⟨Nat.zero_le _, Nat.zero_le _⟩ dX12_addScent_71 (fun H locs hP => ?_)
      refine r_iconst cx 1 dX12_addScent_74 (by decide) ?_
      refine r_iload_n cx dX12_addScent_75 (lv_at hl 2 rfl) ?_
      refine r_ishl cx dX12_addScent_76 hF (fun v5 hF => ?_)
      refine r_ior cx dX12_addScent_77 hF (fun v6 hF => ?_)
      refine r_aload_n cx dX12_addScent_78 (lv_at hl 0 rfl) ?_
      refine r_iload_n cx dX12_addScent_79 (lv_at hl 1 rfl) ?_
      refine r_iconst cx 2 dX12_addScent_80 (by decide) ?_
      obtain ⟨v7, hc, hF⟩ := bnd_some hF
      refine r_callVi cx hP (As := [.int x1, .int 2]) (w12_of l Γ ad A x1 2 s3 v7 hc) mw12_88 ⟨Nat.le_of_ble_eq_true rfl, Nat.le_of_ble_eq_true rfl⟩ (dMr (by decide)) rfl rfl rfl (Nat.le_of_ble_eq_true rfl) hl.1 ⟨Nat.zero_le _, Nat.zero_le _⟩ dX12_addScent_81 (fun H locs hP => ?_)
      obtain ⟨v8, s9, hc, hF⟩ := bns_some hF
      refine r_callVi cx hP (As := [.int x1, .int v6, .int v7]) (w12_renew l Γ ad A x1 v6 v7 s3 v8 s9 hc) mw12_169 ⟨Nat.le_of_ble_eq_true rfl, Nat.le_of_ble_eq_true rfl⟩ (dMr (by decide)) rfl rfl rfl (Nat.le_of_ble_eq_true rfl) hl.1 ⟨Nat.zero_le _, Nat.zero_le _⟩ dX12_addScent_84 (fun H locs hP => ?_)
      exact r_iret cx hP hr hk dX12_addScent_87 hF
    · refine r_iconst cx 0 dX12_addScent_56 (by decide) ?_
      exact r_iret cx hP hr hk dX12_addScent_57 hF
  have b44 : ∀ (x1 : Int32) (x2 : Int32) (σ : Sig) (H : Heap) (locs : List Loc) (ls : Array Slot), PS SM Γ ad A s σ H locs → lv_has ls 3 [(0, .ref (ad 0 0)), (1, .int x1), (2, .int x2)] → f12_addScent_b44 x1 x2 σ = some (r, σ1) → W p l e (rmz 3 64) s m args below meth c H locs 0 0 (QI SM Γ ad A below args s r σ1) (F0 m 44 ls [.ref (ad 0 0)]) := by
    intro x1 x2 σ H locs ls hP hl hF
    rw [f12_addScent_b44] at hF
    refine r_iconst cx 1 dX12_addScent_44 (by decide) ?_
    refine r_goto cx 49 dX12_addScent_45 (by decide) ?_
    exact b49 x1 x2 1 σ _ _ _ hP (lv_sub hl [0, 1, 2] rfl) hF
  refine r_aload_n cx dX12_addScent_0 (lv_at hl 0 rfl) ?_
  refine r_iconst cx 0 dX12_addScent_1 (by decide) ?_
  refine pf12_63 cx hP dX12_addScent_2 hF (fun s10 H locs hP hF => ?_)
  refine r_aload_n cx dX12_addScent_5 (lv_at hl 0 rfl) ?_
  refine r_iload_n cx dX12_addScent_6 (lv_at hl 1 rfl) ?_
  obtain ⟨v11, s12, hc, hF⟩ := bns_some hF
  refine r_callVi cx hP (As := [.int p1]) (w12_noPass l Γ ad A p1 s10 v11 s12 hc) mw12_163 ⟨Nat.le_of_ble_eq_true rfl, Nat.le_of_ble_eq_true rfl⟩ (dMr (by decide)) rfl rfl rfl (Nat.le_of_ble_eq_true rfl) hl.1 ⟨Nat.zero_le _, Nat.zero_le _⟩ dX12_addScent_7 (fun H locs hP => ?_)
  refine r_if_ne cx 56 dX12_addScent_10 (by decide) hF (fun hF => ?_) (fun hF => ?_)
  · refine r_iconst cx 0 dX12_addScent_56 (by decide) ?_
    exact r_iret cx hP hr hk dX12_addScent_57 hF
  · refine r_aload_n cx dX12_addScent_13 (lv_at hl 0 rfl) ?_
    refine r_iload_n cx dX12_addScent_14 (lv_at hl 2 rfl) ?_
    obtain ⟨v13, s14, hc, hF⟩ := bns_some hF
    refine r_callVi cx hP (As := [.int p2]) (w12_noScent l Γ ad A p2 s12 v13 s14 hc) mw12_136 ⟨Nat.le_of_ble_eq_true rfl, Nat.le_of_ble_eq_true rfl⟩ (dMr (by decide)) rfl rfl rfl (Nat.le_of_ble_eq_true rfl) hl.1 ⟨Nat.zero_le _, Nat.zero_le _⟩ dX12_addScent_15 (fun H locs hP => ?_)
    refine r_if_ne cx 56 dX12_addScent_18 (by decide) hF (fun hF => ?_) (fun hF => ?_)
    · refine r_iconst cx 0 dX12_addScent_56 (by decide) ?_
      exact r_iret cx hP hr hk dX12_addScent_57 hF
    · refine r_aload_n cx dX12_addScent_21 (lv_at hl 0 rfl) ?_
      refine r_aload_n cx dX12_addScent_22 (lv_at hl 0 rfl) ?_
      refine r_iload_n cx dX12_addScent_23 (lv_at hl 1 rfl) ?_
      obtain ⟨v15, hc, hF⟩ := bnd_some hF
      refine r_callVi cx hP (As := [.int p1]) (w12_isOver l Γ ad A p1 s14 v15 hc) mw12_166 ⟨Nat.le_of_ble_eq_true rfl, Nat.le_of_ble_eq_true rfl⟩ (dMr (by decide)) rfl rfl rfl (Nat.le_of_ble_eq_true rfl) hl.1 ⟨Nat.zero_le _, Nat.zero_le _⟩ dX12_addScent_24 (fun H locs hP => ?_)
      refine r_if_ne cx 44 dX12_addScent_27 (by decide) hF (fun hF => ?_) (fun hF => ?_)
      · exact b44 p1 p2 s14 _ _ _ hP (lv_sub hl [0, 1, 2] rfl) hF
      · refine r_aload_n cx dX12_addScent_30 (lv_at hl 0 rfl) ?_
        refine r_iload_n cx dX12_addScent_31 (lv_at hl 1 rfl) ?_
        refine r_iconst cx 0 dX12_addScent_32 (by decide) ?_
        obtain ⟨v16, hc, hF⟩ := bnd_some hF
        refine r_callVi cx hP (As := [.int p1, .int 0]) (w12_of l Γ ad A p1 0 s14 v16 hc) mw12_88 ⟨Nat.le_of_ble_eq_true rfl, Nat.le_of_ble_eq_true rfl⟩ (dMr (by decide)) rfl rfl rfl (Nat.le_of_ble_eq_true rfl) hl.1 ⟨Nat.zero_le _, Nat.zero_le _⟩ dX12_addScent_33 (fun H locs hP => ?_)
        refine r_iload_n cx dX12_addScent_36 (lv_at hl 2 rfl) ?_
        refine r_ishr cx dX12_addScent_37 hF (fun v17 hF => ?_)
        refine r_iconst cx 1 dX12_addScent_38 (by decide) ?_
        refine r_iand cx dX12_addScent_39 hF (fun v18 hF => ?_)
        refine r_iconst cx 1 dX12_addScent_40 (by decide) ?_
        refine r_icmp_ne cx 48 dX12_addScent_41 (by decide) hF (fun hF => ?_) (fun hF => ?_)
        · refine r_iconst cx 0 dX12_addScent_48 (by decide) ?_
          exact b49 p1 p2 0 s14 _ _ _ hP (lv_sub hl [0, 1, 2] rfl) hF
        · exact b44 p1 p2 s14 _ _ _ hP (lv_sub hl [0, 1, 2] rfl) hF
set_option maxHeartbeats 4000000 in
set_option maxRecDepth 100000 in
theorem w12_reportLost (l : Launch) (Γ : Wc) (ad : Nat → Nat → Nat) (A : Nat → Prop) (p1 : Int32) (σ : Sig) (r : Int32) (σ1 : Sig) (hF : f12_reportLost p1 σ = some (r, σ1)) : MI l SM Γ ad A yX12_reportLost cX12_reportLost 2 (some .int) 2 45 [.ref (ad 0 0), .int p1] σ r σ1 := by
  refine MI.of (by decide) (Nat.le_of_ble_eq_true rfl) ?_
  intro p e s m args below meth c ls cx hr hk hP hl
  have hl : lv_has ls 2 [(0, .ref (ad 0 0)), (1, .int p1)] := hl
  rw [f12_reportLost] at hF
  generalize hH0 : s.heap = H0 at hP ⊢
  generalize ([] : List Loc) = locs0 at hP ⊢
  clear hH0
  have b29 : ∀ (x1 : Int32) (t1 : Int32) (σ : Sig) (H : Heap) (locs : List Loc) (ls : Array Slot), PS SM Γ ad A s σ H locs → lv_has ls 2 [(0, .ref (ad 0 0)), (1, .int x1)] → f12_reportLost_b29 x1 t1 σ = some (r, σ1) → W p l e (rmz 2 45) s m args below meth c H locs 0 0 (QI SM Γ ad A below args s r σ1) (F0 m 29 ls [.int t1, .ref (ad 0 0)]) := by
    intro x1 t1 σ H locs ls hP hl hF
    rw [f12_reportLost_b29] at hF
    refine r_iconst cx 2 dX12_reportLost_29 (by decide) ?_
    obtain ⟨v1, s2, hc, hF⟩ := bns_some hF
    refine r_callVi cx hP (As := [.int t1, .int 2]) (w12_raise l Γ ad A t1 2 σ v1 s2 hc) mw12_146 ⟨Nat.le_of_ble_eq_true rfl, Nat.le_of_ble_eq_true rfl⟩ (dMr (by decide)) rfl rfl rfl (Nat.le_of_ble_eq_true rfl) hl.1 ⟨Nat.zero_le _, Nat.zero_le _⟩ dX12_reportLost_30 (fun H locs hP => ?_)
    refine r_if_eq cx 38 dX12_reportLost_33 (by decide) hF (fun hF => ?_) (fun hF => ?_)
    · refine r_aload_n cx dX12_reportLost_38 (lv_at hl 0 rfl) ?_
      refine r_aload_n cx dX12_reportLost_39 (lv_at hl 0 rfl) ?_
      refine gf12_9 cx hP dX12_reportLost_40 ?_
      obtain ⟨s3, hc, hF⟩ := bnd_some hF
      refine r_callVv cx hP (As := [.ref (ad 0 1)]) (w12_remember l Γ ad A 1 isW_1 s2 s3 hc) mw12_132 ⟨Nat.le_of_ble_eq_true rfl, Nat.le_of_ble_eq_true rfl⟩ (dMr (by decide)) rfl rfl rfl (Nat.le_of_ble_eq_true rfl) hl.1 ⟨Nat.zero_le _, Nat.zero_le _⟩ dX12_reportLost_43 (fun H locs hP => ?_)
      refine r_aload_n cx dX12_reportLost_46 (lv_at hl 0 rfl) ?_
      refine r_iload_n cx dX12_reportLost_47 (lv_at hl 1 rfl) ?_
      obtain ⟨v4, s5, hc, hF⟩ := bns_some hF
      refine r_callVi cx hP (As := [.int x1]) (w12_lose l Γ ad A x1 s3 v4 s5 hc) mw12_59 ⟨Nat.le_of_ble_eq_true rfl, Nat.le_of_ble_eq_true rfl⟩ (dMr (by decide)) rfl rfl rfl (Nat.le_of_ble_eq_true rfl) hl.1 ⟨Nat.zero_le _, Nat.zero_le _⟩ dX12_reportLost_48 (fun H locs hP => ?_)
      exact r_iret cx hP hr hk dX12_reportLost_51 hF
    · refine r_iconst cx 0 dX12_reportLost_36 (by decide) ?_
      exact r_iret cx hP hr hk dX12_reportLost_37 hF
  refine r_aload_n cx dX12_reportLost_0 (lv_at hl 0 rfl) ?_
  refine r_iconst cx 0 dX12_reportLost_1 (by decide) ?_
  refine pf12_63 cx hP dX12_reportLost_2 hF (fun s6 H locs hP hF => ?_)
  refine r_aload_n cx dX12_reportLost_5 (lv_at hl 0 rfl) ?_
  refine r_iload_n cx dX12_reportLost_6 (lv_at hl 1 rfl) ?_
  obtain ⟨v7, s8, hc, hF⟩ := bns_some hF
  refine r_callVi cx hP (As := [.int p1]) (w12_noPass l Γ ad A p1 s6 v7 s8 hc) mw12_163 ⟨Nat.le_of_ble_eq_true rfl, Nat.le_of_ble_eq_true rfl⟩ (dMr (by decide)) rfl rfl rfl (Nat.le_of_ble_eq_true rfl) hl.1 ⟨Nat.zero_le _, Nat.zero_le _⟩ dX12_reportLost_7 (fun H locs hP => ?_)
  refine r_if_ne cx 36 dX12_reportLost_10 (by decide) hF (fun hF => ?_) (fun hF => ?_)
  · refine r_iconst cx 0 dX12_reportLost_36 (by decide) ?_
    exact r_iret cx hP hr hk dX12_reportLost_37 hF
  · refine r_aload_n cx dX12_reportLost_13 (lv_at hl 0 rfl) ?_
    refine r_aload_n cx dX12_reportLost_14 (lv_at hl 0 rfl) ?_
    refine r_iload_n cx dX12_reportLost_15 (lv_at hl 1 rfl) ?_
    refine r_iconst cx 5 dX12_reportLost_16 (by decide) ?_
    obtain ⟨v9, hc, hF⟩ := bnd_some hF
    refine r_callVi cx hP (As := [.int p1, .int 5]) (w12_of l Γ ad A p1 5 s8 v9 hc) mw12_88 ⟨Nat.le_of_ble_eq_true rfl, Nat.le_of_ble_eq_true rfl⟩ (dMr (by decide)) rfl rfl rfl (Nat.le_of_ble_eq_true rfl) hl.1 ⟨Nat.zero_le _, Nat.zero_le _⟩ dX12_reportLost_17 (fun H locs hP => ?_)
    refine r_iconst cx (-1) dX12_reportLost_20 (by decide) ?_
    refine r_icmp_ne cx 28 dX12_reportLost_21 (by decide) hF (fun hF => ?_) (fun hF => ?_)
    · refine r_iconst cx 0 dX12_reportLost_28 (by decide) ?_
      exact b29 p1 0 s8 _ _ _ hP (lv_sub hl [0, 1] rfl) hF
    · refine r_iconst cx 1 dX12_reportLost_24 (by decide) ?_
      refine r_goto cx 29 dX12_reportLost_25 (by decide) ?_
      exact b29 p1 1 s8 _ _ _ hP (lv_sub hl [0, 1] rfl) hF
set_option maxHeartbeats 4000000 in
set_option maxRecDepth 100000 in
theorem w12_replaceCard (l : Launch) (Γ : Wc) (ad : Nat → Nat → Nat) (A : Nat → Prop) (p1 : Int32) (σ : Sig) (r : Int32) (σ1 : Sig) (hF : f12_replaceCard p1 σ = some (r, σ1)) : MI l SM Γ ad A yX12_replaceCard cX12_replaceCard 2 (some .int) 3 66 [.ref (ad 0 0), .int p1] σ r σ1 := by
  refine MI.of (by decide) (Nat.le_of_ble_eq_true rfl) ?_
  intro p e s m args below meth c ls cx hr hk hP hl
  have hl : lv_has ls 2 [(0, .ref (ad 0 0)), (1, .int p1)] := hl
  rw [f12_replaceCard] at hF
  refine r_aload_n cx dX12_replaceCard_0 (lv_at hl 0 rfl) ?_
  refine r_iconst cx 0 dX12_replaceCard_1 (by decide) ?_
  refine pf12_63 cx hP dX12_replaceCard_2 hF (fun s1 H locs hP hF => ?_)
  refine r_aload_n cx dX12_replaceCard_5 (lv_at hl 0 rfl) ?_
  refine r_iload_n cx dX12_replaceCard_6 (lv_at hl 1 rfl) ?_
  obtain ⟨v2, s3, hc, hF⟩ := bns_some hF
  refine r_callVi cx hP (As := [.int p1]) (w12_noPass l Γ ad A p1 s1 v2 s3 hc) mw12_163 ⟨Nat.le_of_ble_eq_true rfl, Nat.le_of_ble_eq_true rfl⟩ (dMr (by decide)) rfl rfl rfl (Nat.le_of_ble_eq_true rfl) hl.1 ⟨Nat.zero_le _, Nat.zero_le _⟩ dX12_replaceCard_7 (fun H locs hP => ?_)
  refine r_if_ne cx 26 dX12_replaceCard_10 (by decide) hF (fun hF => ?_) (fun hF => ?_)
  · refine r_iconst cx 0 dX12_replaceCard_26 (by decide) ?_
    exact r_iret cx hP hr hk dX12_replaceCard_27 hF
  · refine r_aload_n cx dX12_replaceCard_13 (lv_at hl 0 rfl) ?_
    refine r_aload_n cx dX12_replaceCard_14 (lv_at hl 0 rfl) ?_
    refine r_iload_n cx dX12_replaceCard_15 (lv_at hl 1 rfl) ?_
    obtain ⟨v4, hc, hF⟩ := bnd_some hF
    refine r_callVi cx hP (As := [.int p1]) (w12_cannotReplace l Γ ad A p1 s3 v4 hc) mw12_172 ⟨Nat.le_of_ble_eq_true rfl, Nat.le_of_ble_eq_true rfl⟩ (dMr (by decide)) rfl rfl rfl (Nat.le_of_ble_eq_true rfl) hl.1 ⟨Nat.zero_le _, Nat.zero_le _⟩ dX12_replaceCard_16 (fun H locs hP => ?_)
    refine r_iconst cx 2 dX12_replaceCard_19 (by decide) ?_
    obtain ⟨v5, s6, hc, hF⟩ := bns_some hF
    refine r_callVi cx hP (As := [.int v4, .int 2]) (w12_raise l Γ ad A v4 2 s3 v5 s6 hc) mw12_146 ⟨Nat.le_of_ble_eq_true rfl, Nat.le_of_ble_eq_true rfl⟩ (dMr (by decide)) rfl rfl rfl (Nat.le_of_ble_eq_true rfl) hl.1 ⟨Nat.zero_le _, Nat.zero_le _⟩ dX12_replaceCard_20 (fun H locs hP => ?_)
    refine r_if_eq cx 28 dX12_replaceCard_23 (by decide) hF (fun hF => ?_) (fun hF => ?_)
    · refine r_aload_n cx dX12_replaceCard_28 (lv_at hl 0 rfl) ?_
      refine r_aload_n cx dX12_replaceCard_29 (lv_at hl 0 rfl) ?_
      refine gf12_9 cx hP dX12_replaceCard_30 ?_
      obtain ⟨s7, hc, hF⟩ := bnd_some hF
      refine r_callVv cx hP (As := [.ref (ad 0 1)]) (w12_remember l Γ ad A 1 isW_1 s6 s7 hc) mw12_132 ⟨Nat.le_of_ble_eq_true rfl, Nat.le_of_ble_eq_true rfl⟩ (dMr (by decide)) rfl rfl rfl (Nat.le_of_ble_eq_true rfl) hl.1 ⟨Nat.zero_le _, Nat.zero_le _⟩ dX12_replaceCard_33 (fun H locs hP => ?_)
      refine r_aload_n cx dX12_replaceCard_36 (lv_at hl 0 rfl) ?_
      refine r_iload_n cx dX12_replaceCard_37 (lv_at hl 1 rfl) ?_
      obtain ⟨v8, s9, hc, hF⟩ := bns_some hF
      refine r_callVi cx hP (As := [.int p1]) (w12_replaceIt l Γ ad A p1 s7 v8 s9 hc) mw12_175 ⟨Nat.le_of_ble_eq_true rfl, Nat.le_of_ble_eq_true rfl⟩ (dMr (by decide)) rfl rfl rfl (Nat.le_of_ble_eq_true rfl) hl.1 ⟨Nat.zero_le _, Nat.zero_le _⟩ dX12_replaceCard_38 (fun H locs hP => ?_)
      exact r_iret cx hP hr hk dX12_replaceCard_41 hF
    · refine r_iconst cx 0 dX12_replaceCard_26 (by decide) ?_
      exact r_iret cx hP hr hk dX12_replaceCard_27 hF
set_option maxHeartbeats 4000000 in
set_option maxRecDepth 100000 in
theorem w12_refundPass (l : Launch) (Γ : Wc) (ad : Nat → Nat → Nat) (A : Nat → Prop) (p1 : Int32) (σ : Sig) (r : Int32) (σ1 : Sig) (hF : f12_refundPass p1 σ = some (r, σ1)) : MI l SM Γ ad A yX12_refundPass cX12_refundPass 2 (some .int) 3 71 [.ref (ad 0 0), .int p1] σ r σ1 := by
  refine MI.of (by decide) (Nat.le_of_ble_eq_true rfl) ?_
  intro p e s m args below meth c ls cx hr hk hP hl
  have hl : lv_has ls 2 [(0, .ref (ad 0 0)), (1, .int p1)] := hl
  rw [f12_refundPass] at hF
  generalize hH0 : s.heap = H0 at hP ⊢
  generalize ([] : List Loc) = locs0 at hP ⊢
  clear hH0
  have b30 : ∀ (x1 : Int32) (t1 : Int32) (σ : Sig) (H : Heap) (locs : List Loc) (ls : Array Slot), PS SM Γ ad A s σ H locs → lv_has ls 2 [(0, .ref (ad 0 0)), (1, .int x1)] → f12_refundPass_b30 x1 t1 σ = some (r, σ1) → W p l e (rmz 3 71) s m args below meth c H locs 0 0 (QI SM Γ ad A below args s r σ1) (F0 m 30 ls [.int t1, .ref (ad 0 0)]) := by
    intro x1 t1 σ H locs ls hP hl hF
    rw [f12_refundPass_b30] at hF
    refine r_iconst cx 2 dX12_refundPass_30 (by decide) ?_
    obtain ⟨v1, s2, hc, hF⟩ := bns_some hF
    refine r_callVi cx hP (As := [.int t1, .int 2]) (w12_raise l Γ ad A t1 2 σ v1 s2 hc) mw12_146 ⟨Nat.le_of_ble_eq_true rfl, Nat.le_of_ble_eq_true rfl⟩ (dMr (by decide)) rfl rfl rfl (Nat.le_of_ble_eq_true rfl) hl.1 ⟨Nat.zero_le _, Nat.zero_le _⟩ dX12_refundPass_31 (fun H locs hP => ?_)
    refine r_if_eq cx 39 dX12_refundPass_34 (by decide) hF (fun hF => ?_) (fun hF => ?_)
    · refine r_aload_n cx dX12_refundPass_39 (lv_at hl 0 rfl) ?_
      refine r_aload_n cx dX12_refundPass_40 (lv_at hl 0 rfl) ?_
      refine gf12_9 cx hP dX12_refundPass_41 ?_
      obtain ⟨s3, hc, hF⟩ := bnd_some hF
      refine r_callVv cx hP (As := [.ref (ad 0 1)]) (w12_remember l Γ ad A 1 isW_1 s2 s3 hc) mw12_132 ⟨Nat.le_of_ble_eq_true rfl, Nat.le_of_ble_eq_true rfl⟩ (dMr (by decide)) rfl rfl rfl (Nat.le_of_ble_eq_true rfl) hl.1 ⟨Nat.zero_le _, Nat.zero_le _⟩ dX12_refundPass_44 (fun H locs hP => ?_)
      refine r_aload_n cx dX12_refundPass_47 (lv_at hl 0 rfl) ?_
      refine r_iload_n cx dX12_refundPass_48 (lv_at hl 1 rfl) ?_
      obtain ⟨v4, s5, hc, hF⟩ := bns_some hF
      refine r_callVi cx hP (As := [.int x1]) (w12_giveBack l Γ ad A x1 s3 v4 s5 hc) mw12_178 ⟨Nat.le_of_ble_eq_true rfl, Nat.le_of_ble_eq_true rfl⟩ (dMr (by decide)) rfl rfl rfl (Nat.le_of_ble_eq_true rfl) hl.1 ⟨Nat.zero_le _, Nat.zero_le _⟩ dX12_refundPass_49 (fun H locs hP => ?_)
      exact r_iret cx hP hr hk dX12_refundPass_52 hF
    · refine r_iconst cx 0 dX12_refundPass_37 (by decide) ?_
      exact r_iret cx hP hr hk dX12_refundPass_38 hF
  refine r_aload_n cx dX12_refundPass_0 (lv_at hl 0 rfl) ?_
  refine r_iconst cx 0 dX12_refundPass_1 (by decide) ?_
  refine pf12_63 cx hP dX12_refundPass_2 hF (fun s6 H locs hP hF => ?_)
  refine r_aload_n cx dX12_refundPass_5 (lv_at hl 0 rfl) ?_
  refine r_iload_n cx dX12_refundPass_6 (lv_at hl 1 rfl) ?_
  obtain ⟨v7, s8, hc, hF⟩ := bns_some hF
  refine r_callVi cx hP (As := [.int p1]) (w12_noPass l Γ ad A p1 s6 v7 s8 hc) mw12_163 ⟨Nat.le_of_ble_eq_true rfl, Nat.le_of_ble_eq_true rfl⟩ (dMr (by decide)) rfl rfl rfl (Nat.le_of_ble_eq_true rfl) hl.1 ⟨Nat.zero_le _, Nat.zero_le _⟩ dX12_refundPass_7 (fun H locs hP => ?_)
  refine r_if_ne cx 37 dX12_refundPass_10 (by decide) hF (fun hF => ?_) (fun hF => ?_)
  · refine r_iconst cx 0 dX12_refundPass_37 (by decide) ?_
    exact r_iret cx hP hr hk dX12_refundPass_38 hF
  · refine r_aload_n cx dX12_refundPass_13 (lv_at hl 0 rfl) ?_
    refine r_aload_n cx dX12_refundPass_14 (lv_at hl 0 rfl) ?_
    refine r_iload_n cx dX12_refundPass_15 (lv_at hl 1 rfl) ?_
    refine r_bipush cx 6 dX12_refundPass_16 (by decide) ?_
    obtain ⟨v9, hc, hF⟩ := bnd_some hF
    refine r_callVi cx hP (As := [.int p1, .int 6]) (w12_of l Γ ad A p1 6 s8 v9 hc) mw12_88 ⟨Nat.le_of_ble_eq_true rfl, Nat.le_of_ble_eq_true rfl⟩ (dMr (by decide)) rfl rfl rfl (Nat.le_of_ble_eq_true rfl) hl.1 ⟨Nat.zero_le _, Nat.zero_le _⟩ dX12_refundPass_18 (fun H locs hP => ?_)
    refine r_iconst cx 1 dX12_refundPass_21 (by decide) ?_
    refine r_icmp_ne cx 29 dX12_refundPass_22 (by decide) hF (fun hF => ?_) (fun hF => ?_)
    · refine r_iconst cx 0 dX12_refundPass_29 (by decide) ?_
      exact b30 p1 0 s8 _ _ _ hP (lv_sub hl [0, 1] rfl) hF
    · refine r_iconst cx 1 dX12_refundPass_25 (by decide) ?_
      refine r_goto cx 30 dX12_refundPass_26 (by decide) ?_
      exact b30 p1 1 s8 _ _ _ hP (lv_sub hl [0, 1] rfl) hF
set_option maxHeartbeats 4000000 in
set_option maxRecDepth 100000 in
theorem w12_visit (l : Launch) (Γ : Wc) (ad : Nat → Nat → Nat) (A : Nat → Prop) (p1 : Int32) (p2 : Int32) (σ : Sig) (r : Int32) (σ1 : Sig) (hF : f12_visit p1 p2 σ = some (r, σ1)) : MI l SM Γ ad A yX12_visit cX12_visit 3 (some .int) 4 90 [.ref (ad 0 0), .int p1, .int p2] σ r σ1 := by
  refine MI.of (by decide) (Nat.le_of_ble_eq_true rfl) ?_
  intro p e s m args below meth c ls cx hr hk hP hl
  have hl : lv_has ls 3 [(0, .ref (ad 0 0)), (1, .int p1), (2, .int p2)] := hl
  rw [f12_visit] at hF
  refine r_aload_n cx dX12_visit_0 (lv_at hl 0 rfl) ?_
  refine r_iconst cx 0 dX12_visit_1 (by decide) ?_
  refine pf12_63 cx hP dX12_visit_2 hF (fun s1 H locs hP hF => ?_)
  refine r_aload_n cx dX12_visit_5 (lv_at hl 0 rfl) ?_
  refine r_iload_n cx dX12_visit_6 (lv_at hl 1 rfl) ?_
  obtain ⟨v2, s3, hc, hF⟩ := bns_some hF
  refine r_callVi cx hP (As := [.int p1]) (w12_noCard l Γ ad A p1 s1 v2 s3 hc) mw12_181 ⟨Nat.le_of_ble_eq_true rfl, Nat.le_of_ble_eq_true rfl⟩ (dMr (by decide)) rfl rfl rfl (Nat.le_of_ble_eq_true rfl) hl.1 ⟨Nat.zero_le _, Nat.zero_le _⟩ dX12_visit_7 (fun H locs hP => ?_)
  refine r_if_ne cx 21 dX12_visit_10 (by decide) hF (fun hF => ?_) (fun hF => ?_)
  · refine r_iconst cx 0 dX12_visit_21 (by decide) ?_
    exact r_iret cx hP hr hk dX12_visit_22 hF
  · refine r_aload_n cx dX12_visit_13 (lv_at hl 0 rfl) ?_
    refine r_iload_n cx dX12_visit_14 (lv_at hl 2 rfl) ?_
    obtain ⟨v4, s5, hc, hF⟩ := bns_some hF
    refine r_callVi cx hP (As := [.int p2]) (w12_noBed l Γ ad A p2 s3 v4 s5 hc) mw12_184 ⟨Nat.le_of_ble_eq_true rfl, Nat.le_of_ble_eq_true rfl⟩ (dMr (by decide)) rfl rfl rfl (Nat.le_of_ble_eq_true rfl) hl.1 ⟨Nat.zero_le _, Nat.zero_le _⟩ dX12_visit_15 (fun H locs hP => ?_)
    refine r_if_eq cx 23 dX12_visit_18 (by decide) hF (fun hF => ?_) (fun hF => ?_)
    · refine r_aload_n cx dX12_visit_23 (lv_at hl 0 rfl) ?_
      refine r_aload_n cx dX12_visit_24 (lv_at hl 0 rfl) ?_
      refine gf12_9 cx hP dX12_visit_25 ?_
      obtain ⟨s6, hc, hF⟩ := bnd_some hF
      refine r_callVv cx hP (As := [.ref (ad 0 1)]) (w12_remember l Γ ad A 1 isW_1 s5 s6 hc) mw12_132 ⟨Nat.le_of_ble_eq_true rfl, Nat.le_of_ble_eq_true rfl⟩ (dMr (by decide)) rfl rfl rfl (Nat.le_of_ble_eq_true rfl) hl.1 ⟨Nat.zero_le _, Nat.zero_le _⟩ dX12_visit_28 (fun H locs hP => ?_)
      refine r_aload_n cx dX12_visit_31 (lv_at hl 0 rfl) ?_
      refine r_iload_n cx dX12_visit_32 (lv_at hl 1 rfl) ?_
      refine r_iload_n cx dX12_visit_33 (lv_at hl 2 rfl) ?_
      obtain ⟨v7, s8, hc, hF⟩ := bns_some hF
      refine r_callVi cx hP (As := [.int p1, .int p2]) (w12_show l Γ ad A p1 p2 s6 v7 s8 hc) mw12_52 ⟨Nat.le_of_ble_eq_true rfl, Nat.le_of_ble_eq_true rfl⟩ (dMr (by decide)) rfl rfl rfl (Nat.le_of_ble_eq_true rfl) hl.1 ⟨Nat.zero_le _, Nat.zero_le _⟩ dX12_visit_34 (fun H locs hP => ?_)
      exact r_iret cx hP hr hk dX12_visit_37 hF
    · refine r_iconst cx 0 dX12_visit_21 (by decide) ?_
      exact r_iret cx hP hr hk dX12_visit_22 hF
set_option maxHeartbeats 4000000 in
set_option maxRecDepth 100000 in
theorem w12_pluck (l : Launch) (Γ : Wc) (ad : Nat → Nat → Nat) (A : Nat → Prop) (p1 : Int32) (p2 : Int32) (σ : Sig) (r : Int32) (σ1 : Sig) (hF : f12_pluck p1 p2 σ = some (r, σ1)) : MI l SM Γ ad A yX12_pluck cX12_pluck 3 (some .int) 4 90 [.ref (ad 0 0), .int p1, .int p2] σ r σ1 := by
  refine MI.of (by decide) (Nat.le_of_ble_eq_true rfl) ?_
  intro p e s m args below meth c ls cx hr hk hP hl
  have hl : lv_has ls 3 [(0, .ref (ad 0 0)), (1, .int p1), (2, .int p2)] := hl
  rw [f12_pluck] at hF
  refine r_aload_n cx dX12_pluck_0 (lv_at hl 0 rfl) ?_
  refine r_iconst cx 0 dX12_pluck_1 (by decide) ?_
  refine pf12_63 cx hP dX12_pluck_2 hF (fun s1 H locs hP hF => ?_)
  refine r_aload_n cx dX12_pluck_5 (lv_at hl 0 rfl) ?_
  refine r_iload_n cx dX12_pluck_6 (lv_at hl 1 rfl) ?_
  obtain ⟨v2, s3, hc, hF⟩ := bns_some hF
  refine r_callVi cx hP (As := [.int p1]) (w12_noCard l Γ ad A p1 s1 v2 s3 hc) mw12_181 ⟨Nat.le_of_ble_eq_true rfl, Nat.le_of_ble_eq_true rfl⟩ (dMr (by decide)) rfl rfl rfl (Nat.le_of_ble_eq_true rfl) hl.1 ⟨Nat.zero_le _, Nat.zero_le _⟩ dX12_pluck_7 (fun H locs hP => ?_)
  refine r_if_ne cx 39 dX12_pluck_10 (by decide) hF (fun hF => ?_) (fun hF => ?_)
  · refine r_iconst cx 0 dX12_pluck_39 (by decide) ?_
    exact r_iret cx hP hr hk dX12_pluck_40 hF
  · refine r_aload_n cx dX12_pluck_13 (lv_at hl 0 rfl) ?_
    refine r_iload_n cx dX12_pluck_14 (lv_at hl 2 rfl) ?_
    refine r_iconst cx 1 dX12_pluck_15 (by decide) ?_
    refine r_bipush cx 9 dX12_pluck_16 (by decide) ?_
    refine r_iconst cx 2 dX12_pluck_18 (by decide) ?_
    obtain ⟨v4, s5, hc, hF⟩ := bns_some hF
    refine r_callVi cx hP (As := [.int p2, .int 1, .int 9, .int 2]) (w12_outside l Γ ad A p2 1 9 2 s3 v4 s5 hc) mw12_73 ⟨Nat.le_of_ble_eq_true rfl, Nat.le_of_ble_eq_true rfl⟩ (dMr (by decide)) rfl rfl rfl (Nat.le_of_ble_eq_true rfl) hl.1 ⟨Nat.zero_le _, Nat.zero_le _⟩ dX12_pluck_19 (fun H locs hP => ?_)
    refine r_if_ne cx 39 dX12_pluck_22 (by decide) hF (fun hF => ?_) (fun hF => ?_)
    · refine r_iconst cx 0 dX12_pluck_39 (by decide) ?_
      exact r_iret cx hP hr hk dX12_pluck_40 hF
    · refine r_aload_n cx dX12_pluck_25 (lv_at hl 0 rfl) ?_
      refine r_aload_n cx dX12_pluck_26 (lv_at hl 0 rfl) ?_
      refine r_iload_n cx dX12_pluck_27 (lv_at hl 1 rfl) ?_
      refine r_iload_n cx dX12_pluck_28 (lv_at hl 2 rfl) ?_
      obtain ⟨v6, hc, hF⟩ := bnd_some hF
      refine r_callVi cx hP (As := [.int p1, .int p2]) (w12_cannotPluck l Γ ad A p1 p2 s5 v6 hc) mw12_187 ⟨Nat.le_of_ble_eq_true rfl, Nat.le_of_ble_eq_true rfl⟩ (dMr (by decide)) rfl rfl rfl (Nat.le_of_ble_eq_true rfl) hl.1 ⟨Nat.zero_le _, Nat.zero_le _⟩ dX12_pluck_29 (fun H locs hP => ?_)
      refine r_iconst cx 3 dX12_pluck_32 (by decide) ?_
      obtain ⟨v7, s8, hc, hF⟩ := bns_some hF
      refine r_callVi cx hP (As := [.int v6, .int 3]) (w12_raise l Γ ad A v6 3 s5 v7 s8 hc) mw12_146 ⟨Nat.le_of_ble_eq_true rfl, Nat.le_of_ble_eq_true rfl⟩ (dMr (by decide)) rfl rfl rfl (Nat.le_of_ble_eq_true rfl) hl.1 ⟨Nat.zero_le _, Nat.zero_le _⟩ dX12_pluck_33 (fun H locs hP => ?_)
      refine r_if_eq cx 41 dX12_pluck_36 (by decide) hF (fun hF => ?_) (fun hF => ?_)
      · refine r_aload_n cx dX12_pluck_41 (lv_at hl 0 rfl) ?_
        refine r_aload_n cx dX12_pluck_42 (lv_at hl 0 rfl) ?_
        refine gf12_9 cx hP dX12_pluck_43 ?_
        obtain ⟨s9, hc, hF⟩ := bnd_some hF
        refine r_callVv cx hP (As := [.ref (ad 0 1)]) (w12_remember l Γ ad A 1 isW_1 s8 s9 hc) mw12_132 ⟨Nat.le_of_ble_eq_true rfl, Nat.le_of_ble_eq_true rfl⟩ (dMr (by decide)) rfl rfl rfl (Nat.le_of_ble_eq_true rfl) hl.1 ⟨Nat.zero_le _, Nat.zero_le _⟩ dX12_pluck_46 (fun H locs hP => ?_)
        refine r_aload_n cx dX12_pluck_49 (lv_at hl 0 rfl) ?_
        refine r_iload_n cx dX12_pluck_50 (lv_at hl 1 rfl) ?_
        refine r_iload_n cx dX12_pluck_51 (lv_at hl 2 rfl) ?_
        obtain ⟨v10, s11, hc, hF⟩ := bns_some hF
        refine r_callVi cx hP (As := [.int p1, .int p2]) (w12_take l Γ ad A p1 p2 s9 v10 s11 hc) mw12_56 ⟨Nat.le_of_ble_eq_true rfl, Nat.le_of_ble_eq_true rfl⟩ (dMr (by decide)) rfl rfl rfl (Nat.le_of_ble_eq_true rfl) hl.1 ⟨Nat.zero_le _, Nat.zero_le _⟩ dX12_pluck_52 (fun H locs hP => ?_)
        exact r_iret cx hP hr hk dX12_pluck_55 hF
      · refine r_iconst cx 0 dX12_pluck_39 (by decide) ?_
        exact r_iret cx hP hr hk dX12_pluck_40 hF
set_option maxHeartbeats 4000000 in
set_option maxRecDepth 100000 in
theorem w12_payFines (l : Launch) (Γ : Wc) (ad : Nat → Nat → Nat) (A : Nat → Prop) (p1 : Int32) (p2 : Int32) (σ : Sig) (r : Int32) (σ1 : Sig) (hF : f12_payFines p1 p2 σ = some (r, σ1)) : MI l SM Γ ad A yX12_payFines cX12_payFines 3 (some .int) 2 45 [.ref (ad 0 0), .int p1, .int p2] σ r σ1 := by
  refine MI.of (by decide) (Nat.le_of_ble_eq_true rfl) ?_
  intro p e s m args below meth c ls cx hr hk hP hl
  have hl : lv_has ls 3 [(0, .ref (ad 0 0)), (1, .int p1), (2, .int p2)] := hl
  rw [f12_payFines] at hF
  generalize hH0 : s.heap = H0 at hP ⊢
  generalize ([] : List Loc) = locs0 at hP ⊢
  clear hH0
  have b43 : ∀ (x1 : Int32) (x2 : Int32) (t1 : Int32) (σ : Sig) (H : Heap) (locs : List Loc) (ls : Array Slot), PS SM Γ ad A s σ H locs → lv_has ls 3 [(0, .ref (ad 0 0)), (1, .int x1), (2, .int x2)] → f12_payFines_b43 x1 x2 t1 σ = some (r, σ1) → W p l e (rmz 2 45) s m args below meth c H locs 0 0 (QI SM Γ ad A below args s r σ1) (F0 m 43 ls [.int t1, .ref (ad 0 0)]) := by
    intro x1 x2 t1 σ H locs ls hP hl hF
    rw [f12_payFines_b43] at hF
    refine r_iconst cx 3 dX12_payFines_43 (by decide) ?_
    obtain ⟨v1, s2, hc, hF⟩ := bns_some hF
    refine r_callVi cx hP (As := [.int t1, .int 3]) (w12_raise l Γ ad A t1 3 σ v1 s2 hc) mw12_146 ⟨Nat.le_of_ble_eq_true rfl, Nat.le_of_ble_eq_true rfl⟩ (dMr (by decide)) rfl rfl rfl (Nat.le_of_ble_eq_true rfl) hl.1 ⟨Nat.zero_le _, Nat.zero_le _⟩ dX12_payFines_44 (fun H locs hP => ?_)
    refine r_if_eq cx 52 dX12_payFines_47 (by decide) hF (fun hF => ?_) (fun hF => ?_)
    · refine r_aload_n cx dX12_payFines_52 (lv_at hl 0 rfl) ?_
      refine r_aload_n cx dX12_payFines_53 (lv_at hl 0 rfl) ?_
      refine gf12_9 cx hP dX12_payFines_54 ?_
      obtain ⟨s3, hc, hF⟩ := bnd_some hF
      refine r_callVv cx hP (As := [.ref (ad 0 1)]) (w12_remember l Γ ad A 1 isW_1 s2 s3 hc) mw12_132 ⟨Nat.le_of_ble_eq_true rfl, Nat.le_of_ble_eq_true rfl⟩ (dMr (by decide)) rfl rfl rfl (Nat.le_of_ble_eq_true rfl) hl.1 ⟨Nat.zero_le _, Nat.zero_le _⟩ dX12_payFines_57 (fun H locs hP => ?_)
      refine r_aload_n cx dX12_payFines_60 (lv_at hl 0 rfl) ?_
      refine r_iload_n cx dX12_payFines_61 (lv_at hl 1 rfl) ?_
      refine r_iload_n cx dX12_payFines_62 (lv_at hl 2 rfl) ?_
      obtain ⟨v4, s5, hc, hF⟩ := bns_some hF
      refine r_callVi cx hP (As := [.int x1, .int x2]) (w12_receive l Γ ad A x1 x2 s3 v4 s5 hc) mw12_126 ⟨Nat.le_of_ble_eq_true rfl, Nat.le_of_ble_eq_true rfl⟩ (dMr (by decide)) rfl rfl rfl (Nat.le_of_ble_eq_true rfl) hl.1 ⟨Nat.zero_le _, Nat.zero_le _⟩ dX12_payFines_63 (fun H locs hP => ?_)
      exact r_iret cx hP hr hk dX12_payFines_66 hF
    · refine r_iconst cx 0 dX12_payFines_50 (by decide) ?_
      exact r_iret cx hP hr hk dX12_payFines_51 hF
  refine r_aload_n cx dX12_payFines_0 (lv_at hl 0 rfl) ?_
  refine r_iconst cx 0 dX12_payFines_1 (by decide) ?_
  refine pf12_63 cx hP dX12_payFines_2 hF (fun s6 H locs hP hF => ?_)
  refine r_aload_n cx dX12_payFines_5 (lv_at hl 0 rfl) ?_
  refine r_iload_n cx dX12_payFines_6 (lv_at hl 1 rfl) ?_
  obtain ⟨v7, s8, hc, hF⟩ := bns_some hF
  refine r_callVi cx hP (As := [.int p1]) (w12_noPass l Γ ad A p1 s6 v7 s8 hc) mw12_163 ⟨Nat.le_of_ble_eq_true rfl, Nat.le_of_ble_eq_true rfl⟩ (dMr (by decide)) rfl rfl rfl (Nat.le_of_ble_eq_true rfl) hl.1 ⟨Nat.zero_le _, Nat.zero_le _⟩ dX12_payFines_7 (fun H locs hP => ?_)
  refine r_if_ne cx 50 dX12_payFines_10 (by decide) hF (fun hF => ?_) (fun hF => ?_)
  · refine r_iconst cx 0 dX12_payFines_50 (by decide) ?_
    exact r_iret cx hP hr hk dX12_payFines_51 hF
  · refine r_aload_n cx dX12_payFines_13 (lv_at hl 0 rfl) ?_
    refine r_iload_n cx dX12_payFines_14 (lv_at hl 2 rfl) ?_
    refine r_iconst cx 1 dX12_payFines_15 (by decide) ?_
    refine r_sipush cx 9999 dX12_payFines_16 (by decide) ?_
    refine r_iconst cx 2 dX12_payFines_19 (by decide) ?_
    obtain ⟨v9, s10, hc, hF⟩ := bns_some hF
    refine r_callVi cx hP (As := [.int p2, .int 1, .int 9999, .int 2]) (w12_outside l Γ ad A p2 1 9999 2 s8 v9 s10 hc) mw12_73 ⟨Nat.le_of_ble_eq_true rfl, Nat.le_of_ble_eq_true rfl⟩ (dMr (by decide)) rfl rfl rfl (Nat.le_of_ble_eq_true rfl) hl.1 ⟨Nat.zero_le _, Nat.zero_le _⟩ dX12_payFines_20 (fun H locs hP => ?_)
    refine r_if_ne cx 50 dX12_payFines_23 (by decide) hF (fun hF => ?_) (fun hF => ?_)
    · refine r_iconst cx 0 dX12_payFines_50 (by decide) ?_
      exact r_iret cx hP hr hk dX12_payFines_51 hF
    · refine r_aload_n cx dX12_payFines_26 (lv_at hl 0 rfl) ?_
      refine r_aload_n cx dX12_payFines_27 (lv_at hl 0 rfl) ?_
      refine r_iload_n cx dX12_payFines_28 (lv_at hl 1 rfl) ?_
      refine r_bipush cx 11 dX12_payFines_29 (by decide) ?_
      obtain ⟨v11, hc, hF⟩ := bnd_some hF
      refine r_callVi cx hP (As := [.int p1, .int 11]) (w12_of l Γ ad A p1 11 s10 v11 hc) mw12_88 ⟨Nat.le_of_ble_eq_true rfl, Nat.le_of_ble_eq_true rfl⟩ (dMr (by decide)) rfl rfl rfl (Nat.le_of_ble_eq_true rfl) hl.1 ⟨Nat.zero_le _, Nat.zero_le _⟩ dX12_payFines_31 (fun H locs hP => ?_)
      refine r_iload_n cx dX12_payFines_34 (lv_at hl 2 rfl) ?_
      refine r_icmp_ge cx 42 dX12_payFines_35 (by decide) hF (fun hF => ?_) (fun hF => ?_)
      · refine r_iconst cx 0 dX12_payFines_42 (by decide) ?_
        exact b43 p1 p2 0 s10 _ _ _ hP (lv_sub hl [0, 1, 2] rfl) hF
      · refine r_iconst cx 1 dX12_payFines_38 (by decide) ?_
        refine r_goto cx 43 dX12_payFines_39 (by decide) ?_
        exact b43 p1 p2 1 s10 _ _ _ hP (lv_sub hl [0, 1, 2] rfl) hF
set_option maxHeartbeats 4000000 in
set_option maxRecDepth 100000 in
theorem w12_pass (l : Launch) (Γ : Wc) (ad : Nat → Nat → Nat) (A : Nat → Prop) (p1 : Int32) (σ : Sig) (r : Int32) (σ1 : Sig) (hF : f12_pass p1 σ = some (r, σ1)) : MI l SM Γ ad A yX12_pass cX12_pass 2 (some .int) 4 86 [.ref (ad 0 0), .int p1] σ r σ1 := by
  refine MI.of (by decide) (Nat.le_of_ble_eq_true rfl) ?_
  intro p e s m args below meth c ls cx hr hk hP hl
  have hl : lv_has ls 2 [(0, .ref (ad 0 0)), (1, .int p1)] := hl
  rw [f12_pass] at hF
  generalize hH0 : s.heap = H0 at hP ⊢
  generalize ([] : List Loc) = locs0 at hP ⊢
  clear hH0
  have b38 : ∀ (x1 : Int32) (t1 : Int32) (σ : Sig) (H : Heap) (locs : List Loc) (ls : Array Slot), PS SM Γ ad A s σ H locs → lv_has ls 2 [(0, .ref (ad 0 0)), (1, .int x1)] → f12_pass_b38 x1 t1 σ = some (r, σ1) → W p l e (rmz 4 86) s m args below meth c H locs 0 0 (QI SM Γ ad A below args s r σ1) (F0 m 38 ls [.int t1, .ref (ad 0 0)]) := by
    intro x1 t1 σ H locs ls hP hl hF
    rw [f12_pass_b38] at hF
    refine r_iconst cx 2 dX12_pass_38 (by decide) ?_
    obtain ⟨v1, s2, hc, hF⟩ := bns_some hF
    refine r_callVi cx hP (As := [.int t1, .int 2]) (w12_raise l Γ ad A t1 2 σ v1 s2 hc) mw12_146 ⟨Nat.le_of_ble_eq_true rfl, Nat.le_of_ble_eq_true rfl⟩ (dMr (by decide)) rfl rfl rfl (Nat.le_of_ble_eq_true rfl) hl.1 ⟨Nat.zero_le _, Nat.zero_le _⟩ dX12_pass_39 (fun H locs hP => ?_)
    refine r_if_eq cx 47 dX12_pass_42 (by decide) hF (fun hF => ?_) (fun hF => ?_)
    · refine r_aload_n cx dX12_pass_47 (lv_at hl 0 rfl) ?_
      refine r_aload_n cx dX12_pass_48 (lv_at hl 0 rfl) ?_
      refine gf12_9 cx hP dX12_pass_49 ?_
      obtain ⟨s3, hc, hF⟩ := bnd_some hF
      refine r_callVv cx hP (As := [.ref (ad 0 1)]) (w12_remember l Γ ad A 1 isW_1 s2 s3 hc) mw12_132 ⟨Nat.le_of_ble_eq_true rfl, Nat.le_of_ble_eq_true rfl⟩ (dMr (by decide)) rfl rfl rfl (Nat.le_of_ble_eq_true rfl) hl.1 ⟨Nat.zero_le _, Nat.zero_le _⟩ dX12_pass_52 (fun H locs hP => ?_)
      refine r_aload_n cx dX12_pass_55 (lv_at hl 0 rfl) ?_
      refine r_iload_n cx dX12_pass_56 (lv_at hl 1 rfl) ?_
      obtain ⟨s4, hc, hF⟩ := bnd_some hF
      refine r_callVv cx hP (As := [.int x1]) (w12_passAll l Γ ad A x1 s3 s4 hc) mw12_49 ⟨Nat.le_of_ble_eq_true rfl, Nat.le_of_ble_eq_true rfl⟩ (dMr (by decide)) rfl rfl rfl (Nat.le_of_ble_eq_true rfl) hl.1 ⟨Nat.zero_le _, Nat.zero_le _⟩ dX12_pass_57 (fun H locs hP => ?_)
      refine r_aload_n cx dX12_pass_60 (lv_at hl 0 rfl) ?_
      refine gf12_9 cx hP dX12_pass_61 ?_
      refine r_iconst cx 4 dX12_pass_64 (by decide) ?_
      refine r_iald cx hP (dMr (by decide)) rfl dX12_pass_65 hF (fun v5 hF => ?_)
      exact r_iret cx hP hr hk dX12_pass_66 hF
    · refine r_iconst cx 0 dX12_pass_45 (by decide) ?_
      exact r_iret cx hP hr hk dX12_pass_46 hF
  refine r_aload_n cx dX12_pass_0 (lv_at hl 0 rfl) ?_
  refine r_iconst cx 0 dX12_pass_1 (by decide) ?_
  refine pf12_63 cx hP dX12_pass_2 hF (fun s6 H locs hP hF => ?_)
  refine r_aload_n cx dX12_pass_5 (lv_at hl 0 rfl) ?_
  refine r_iload_n cx dX12_pass_6 (lv_at hl 1 rfl) ?_
  refine r_iconst cx 1 dX12_pass_7 (by decide) ?_
  refine r_sipush cx 500 dX12_pass_8 (by decide) ?_
  refine r_iconst cx 1 dX12_pass_11 (by decide) ?_
  obtain ⟨v7, s8, hc, hF⟩ := bns_some hF
  refine r_callVi cx hP (As := [.int p1, .int 1, .int 500, .int 1]) (w12_outside l Γ ad A p1 1 500 1 s6 v7 s8 hc) mw12_73 ⟨Nat.le_of_ble_eq_true rfl, Nat.le_of_ble_eq_true rfl⟩ (dMr (by decide)) rfl rfl rfl (Nat.le_of_ble_eq_true rfl) hl.1 ⟨Nat.zero_le _, Nat.zero_le _⟩ dX12_pass_12 (fun H locs hP => ?_)
  refine r_if_ne cx 45 dX12_pass_15 (by decide) hF (fun hF => ?_) (fun hF => ?_)
  · refine r_iconst cx 0 dX12_pass_45 (by decide) ?_
    exact r_iret cx hP hr hk dX12_pass_46 hF
  · refine r_aload_n cx dX12_pass_18 (lv_at hl 0 rfl) ?_
    refine r_aload_n cx dX12_pass_19 (lv_at hl 0 rfl) ?_
    refine gf12_9 cx hP dX12_pass_20 ?_
    refine r_iconst cx 4 dX12_pass_23 (by decide) ?_
    refine r_iald cx hP (dMr (by decide)) rfl dX12_pass_24 hF (fun v9 hF => ?_)
    refine r_iload_n cx dX12_pass_25 (lv_at hl 1 rfl) ?_
    refine r_iadd cx dX12_pass_26 hF (fun v10 hF => ?_)
    refine r_sipush cx 9599 dX12_pass_27 (by decide) ?_
    refine r_icmp_le cx 37 dX12_pass_30 (by decide) hF (fun hF => ?_) (fun hF => ?_)
    · refine r_iconst cx 0 dX12_pass_37 (by decide) ?_
      exact b38 p1 0 s8 _ _ _ hP (lv_sub hl [0, 1] rfl) hF
    · refine r_iconst cx 1 dX12_pass_33 (by decide) ?_
      refine r_goto cx 38 dX12_pass_34 (by decide) ?_
      exact b38 p1 1 s8 _ _ _ hP (lv_sub hl [0, 1] rfl) hF
set_option maxHeartbeats 4000000 in
set_option maxRecDepth 100000 in
theorem w12_undo (l : Launch) (Γ : Wc) (ad : Nat → Nat → Nat) (A : Nat → Prop)  (σ : Sig) (r : Int32) (σ1 : Sig) (hF : f12_undo  σ = some (r, σ1)) : MI l SM Γ ad A yX12_undo cX12_undo 1 (some .int) 1 22 [.ref (ad 0 0)] σ r σ1 := by
  refine MI.of (by decide) (Nat.le_of_ble_eq_true rfl) ?_
  intro p e s m args below meth c ls cx hr hk hP hl
  have hl : lv_has ls 1 [(0, .ref (ad 0 0))] := hl
  rw [f12_undo] at hF
  refine r_aload_n cx dX12_undo_0 (lv_at hl 0 rfl) ?_
  refine r_iconst cx 0 dX12_undo_1 (by decide) ?_
  refine pf12_63 cx hP dX12_undo_2 hF (fun s1 H locs hP hF => ?_)
  refine r_aload_n cx dX12_undo_5 (lv_at hl 0 rfl) ?_
  refine gf12_66 cx hP dX12_undo_6 hF (fun v2 hF => ?_)
  refine r_if_ne cx 14 dX12_undo_9 (by decide) hF (fun hF => ?_) (fun hF => ?_)
  · refine r_aload_n cx dX12_undo_14 (lv_at hl 0 rfl) ?_
    refine r_dup cx dX12_undo_15 rfl ?_
    refine gf12_66 cx hP dX12_undo_16 hF (fun v3 hF => ?_)
    refine r_iconst cx 1 dX12_undo_19 (by decide) ?_
    refine r_isub cx dX12_undo_20 hF (fun v4 hF => ?_)
    refine pf12_66 cx hP dX12_undo_21 hF (fun s5 H locs hP hF => ?_)
    refine r_aload_n cx dX12_undo_24 (lv_at hl 0 rfl) ?_
    refine gf12_15 cx hP dX12_undo_25 ?_
    refine r_aload_n cx dX12_undo_28 (lv_at hl 0 rfl) ?_
    refine gf12_66 cx hP dX12_undo_29 hF (fun v6 hF => ?_)
    refine r_alw cx hP dX12_undo_32 hF (fun j7 hj7 hF => ?_)
    refine r_aload_n cx dX12_undo_33 (lv_at hl 0 rfl) ?_
    refine gf12_9 cx hP dX12_undo_34 ?_
    obtain ⟨s8, hc, hF⟩ := bnd_some hF
    refine r_callSv cx hP (As := [.ref (ad 0 j7), .ref (ad 0 1)]) (w12_copy l Γ ad A j7 hj7 1 isW_1 s5 s8 hc) mw12_69 ⟨Nat.le_of_ble_eq_true rfl, Nat.le_of_ble_eq_true rfl⟩ rfl (Nat.le_of_ble_eq_true rfl) hl.1 ⟨Nat.zero_le _, Nat.zero_le _⟩ dX12_undo_37 (fun H locs hP => ?_)
    refine r_aload_n cx dX12_undo_40 (lv_at hl 0 rfl) ?_
    refine gf12_66 cx hP dX12_undo_41 hF (fun v9 hF => ?_)
    exact r_iret cx hP hr hk dX12_undo_44 hF
  · refine r_iconst cx (-1) dX12_undo_12 (by decide) ?_
    exact r_iret cx hP hr hk dX12_undo_13 hF
set_option maxHeartbeats 4000000 in
set_option maxRecDepth 100000 in
theorem w12_undoCount (l : Launch) (Γ : Wc) (ad : Nat → Nat → Nat) (A : Nat → Prop)  (σ : Sig) (r : Int32) (σ1 : Sig) (hF : f12_undoCount  σ = some (r, σ1)) : MI l SM Γ ad A yX12_undoCount cX12_undoCount 1 (some .int) 0 0 [.ref (ad 0 0)] σ r σ1 := by
  refine MI.of (by decide) (Nat.le_of_ble_eq_true rfl) ?_
  intro p e s m args below meth c ls cx hr hk hP hl
  have hl : lv_has ls 1 [(0, .ref (ad 0 0))] := hl
  rw [f12_undoCount] at hF
  refine r_aload_n cx dX12_undoCount_0 (lv_at hl 0 rfl) ?_
  refine r_iconst cx 0 dX12_undoCount_1 (by decide) ?_
  refine pf12_63 cx hP dX12_undoCount_2 hF (fun s1 H locs hP hF => ?_)
  refine r_aload_n cx dX12_undoCount_5 (lv_at hl 0 rfl) ?_
  refine gf12_66 cx hP dX12_undoCount_6 hF (fun v2 hF => ?_)
  exact r_iret cx hP hr hk dX12_undoCount_9 hF
set_option maxHeartbeats 4000000 in
set_option maxRecDepth 100000 in
theorem w12_saveSnapshot (l : Launch) (Γ : Wc) (ad : Nat → Nat → Nat) (A : Nat → Prop)  (σ : Sig) (r : Int32) (σ1 : Sig) (hF : f12_saveSnapshot  σ = some (r, σ1)) : MI l SM Γ ad A yX12_saveSnapshot cX12_saveSnapshot 1 (some .int) 1 22 [.ref (ad 0 0)] σ r σ1 := by
  refine MI.of (by decide) (Nat.le_of_ble_eq_true rfl) ?_
  intro p e s m args below meth c ls cx hr hk hP hl
  have hl : lv_has ls 1 [(0, .ref (ad 0 0))] := hl
  rw [f12_saveSnapshot] at hF
  refine r_aload_n cx dX12_saveSnapshot_0 (lv_at hl 0 rfl) ?_
  refine r_iconst cx 0 dX12_saveSnapshot_1 (by decide) ?_
  refine pf12_63 cx hP dX12_saveSnapshot_2 hF (fun s1 H locs hP hF => ?_)
  refine r_aload_n cx dX12_saveSnapshot_5 (lv_at hl 0 rfl) ?_
  refine gf12_9 cx hP dX12_saveSnapshot_6 ?_
  refine r_aload_n cx dX12_saveSnapshot_9 (lv_at hl 0 rfl) ?_
  refine gf12_18 cx hP dX12_saveSnapshot_10 ?_
  obtain ⟨s2, hc, hF⟩ := bnd_some hF
  refine r_callSv cx hP (As := [.ref (ad 0 1), .ref (ad 0 3)]) (w12_copy l Γ ad A 1 isW_1 3 isW_3 s1 s2 hc) mw12_69 ⟨Nat.le_of_ble_eq_true rfl, Nat.le_of_ble_eq_true rfl⟩ rfl (Nat.le_of_ble_eq_true rfl) hl.1 ⟨Nat.zero_le _, Nat.zero_le _⟩ dX12_saveSnapshot_13 (fun H locs hP => ?_)
  refine r_aload_n cx dX12_saveSnapshot_16 (lv_at hl 0 rfl) ?_
  refine r_iconst cx 1 dX12_saveSnapshot_17 (by decide) ?_
  refine pf12_191 cx hP (by decide) (by decide) dX12_saveSnapshot_18 hF (fun s3 H locs hP hF => ?_)
  refine r_aload_n cx dX12_saveSnapshot_21 (lv_at hl 0 rfl) ?_
  refine gf12_9 cx hP dX12_saveSnapshot_22 ?_
  refine r_iconst cx 4 dX12_saveSnapshot_25 (by decide) ?_
  refine r_iald cx hP (dMr (by decide)) rfl dX12_saveSnapshot_26 hF (fun v4 hF => ?_)
  exact r_iret cx hP hr hk dX12_saveSnapshot_27 hF
set_option maxHeartbeats 4000000 in
set_option maxRecDepth 100000 in
theorem w12_restoreSnapshot (l : Launch) (Γ : Wc) (ad : Nat → Nat → Nat) (A : Nat → Prop)  (σ : Sig) (r : Int32) (σ1 : Sig) (hF : f12_restoreSnapshot  σ = some (r, σ1)) : MI l SM Γ ad A yX12_restoreSnapshot cX12_restoreSnapshot 1 (some .int) 1 22 [.ref (ad 0 0)] σ r σ1 := by
  refine MI.of (by decide) (Nat.le_of_ble_eq_true rfl) ?_
  intro p e s m args below meth c ls cx hr hk hP hl
  have hl : lv_has ls 1 [(0, .ref (ad 0 0))] := hl
  rw [f12_restoreSnapshot] at hF
  generalize hH0 : s.heap = H0 at hP ⊢
  generalize ([] : List Loc) = locs0 at hP ⊢
  clear hH0
  have b18 : ∀ (t1 : Int32) (σ : Sig) (H : Heap) (locs : List Loc) (ls : Array Slot), PS SM Γ ad A s σ H locs → lv_has ls 1 [(0, .ref (ad 0 0))] → f12_restoreSnapshot_b18 t1 σ = some (r, σ1) → W p l e (rmz 1 22) s m args below meth c H locs 0 0 (QI SM Γ ad A below args s r σ1) (F0 m 18 ls [.int t1, .ref (ad 0 0)]) := by
    intro t1 σ H locs ls hP hl hF
    rw [f12_restoreSnapshot_b18] at hF
    refine r_iconst cx 1 dX12_restoreSnapshot_18 (by decide) ?_
    obtain ⟨v1, s2, hc, hF⟩ := bns_some hF
    refine r_callVi cx hP (As := [.int t1, .int 1]) (w12_raise l Γ ad A t1 1 σ v1 s2 hc) mw12_146 ⟨Nat.le_of_ble_eq_true rfl, Nat.le_of_ble_eq_true rfl⟩ (dMr (by decide)) rfl rfl rfl (Nat.le_of_ble_eq_true rfl) hl.1 ⟨Nat.zero_le _, Nat.zero_le _⟩ dX12_restoreSnapshot_19 (fun H locs hP => ?_)
    refine r_if_eq cx 27 dX12_restoreSnapshot_22 (by decide) hF (fun hF => ?_) (fun hF => ?_)
    · refine r_aload_n cx dX12_restoreSnapshot_27 (lv_at hl 0 rfl) ?_
      refine gf12_18 cx hP dX12_restoreSnapshot_28 ?_
      refine r_aload_n cx dX12_restoreSnapshot_31 (lv_at hl 0 rfl) ?_
      refine gf12_9 cx hP dX12_restoreSnapshot_32 ?_
      obtain ⟨s3, hc, hF⟩ := bnd_some hF
      refine r_callSv cx hP (As := [.ref (ad 0 3), .ref (ad 0 1)]) (w12_copy l Γ ad A 3 isW_3 1 isW_1 s2 s3 hc) mw12_69 ⟨Nat.le_of_ble_eq_true rfl, Nat.le_of_ble_eq_true rfl⟩ rfl (Nat.le_of_ble_eq_true rfl) hl.1 ⟨Nat.zero_le _, Nat.zero_le _⟩ dX12_restoreSnapshot_35 (fun H locs hP => ?_)
      refine r_aload_n cx dX12_restoreSnapshot_38 (lv_at hl 0 rfl) ?_
      refine r_iconst cx 0 dX12_restoreSnapshot_39 (by decide) ?_
      refine pf12_66 cx hP dX12_restoreSnapshot_40 hF (fun s4 H locs hP hF => ?_)
      refine r_aload_n cx dX12_restoreSnapshot_43 (lv_at hl 0 rfl) ?_
      refine gf12_9 cx hP dX12_restoreSnapshot_44 ?_
      refine r_iconst cx 4 dX12_restoreSnapshot_47 (by decide) ?_
      refine r_iald cx hP (dMr (by decide)) rfl dX12_restoreSnapshot_48 hF (fun v5 hF => ?_)
      exact r_iret cx hP hr hk dX12_restoreSnapshot_49 hF
    · refine r_iconst cx 0 dX12_restoreSnapshot_25 (by decide) ?_
      exact r_iret cx hP hr hk dX12_restoreSnapshot_26 hF
  refine r_aload_n cx dX12_restoreSnapshot_0 (lv_at hl 0 rfl) ?_
  refine r_iconst cx 0 dX12_restoreSnapshot_1 (by decide) ?_
  refine pf12_63 cx hP dX12_restoreSnapshot_2 hF (fun s6 H locs hP hF => ?_)
  refine r_aload_n cx dX12_restoreSnapshot_5 (lv_at hl 0 rfl) ?_
  refine r_aload_n cx dX12_restoreSnapshot_6 (lv_at hl 0 rfl) ?_
  refine gf12_191 cx hP dX12_restoreSnapshot_7 hF (fun v7 hF => ?_)
  refine r_if_ne cx 17 dX12_restoreSnapshot_10 (by decide) hF (fun hF => ?_) (fun hF => ?_)
  · refine r_iconst cx 0 dX12_restoreSnapshot_17 (by decide) ?_
    exact b18 0 s6 _ _ _ hP (lv_sub hl [0] rfl) hF
  · refine r_iconst cx 1 dX12_restoreSnapshot_13 (by decide) ?_
    refine r_goto cx 18 dX12_restoreSnapshot_14 (by decide) ?_
    exact b18 1 s6 _ _ _ hP (lv_sub hl [0] rfl) hF
set_option maxHeartbeats 4000000 in
set_option maxRecDepth 100000 in
theorem w12_letterAt (l : Launch) (Γ : Wc) (ad : Nat → Nat → Nat) (A : Nat → Prop) (p1 : Int32) (σ : Sig) (r : Int32) (hF : f12_letterAt p1 σ = some r) : MI l SM Γ ad A yX12_letterAt cX12_letterAt 2 (some .boolean) 0 0 [.ref (ad 0 0), .int p1] σ r σ := by
  refine MI.of (by decide) (Nat.le_of_ble_eq_true rfl) ?_
  intro p e s m args below meth c ls cx hr hk hP hl
  have hl : lv_has ls 2 [(0, .ref (ad 0 0)), (1, .int p1)] := hl
  rw [f12_letterAt] at hF
  refine r_iload_n cx dX12_letterAt_0 (lv_at hl 1 rfl) ?_
  refine r_aload_n cx dX12_letterAt_1 (lv_at hl 0 rfl) ?_
  refine gf12_195 cx hP dX12_letterAt_2 hF (fun v1 hF => ?_)
  refine r_icmp_ge cx 34 dX12_letterAt_5 (by decide) hF (fun hF => ?_) (fun hF => ?_)
  · refine r_iconst cx 0 dX12_letterAt_34 (by decide) ?_
    exact r_zret cx hP hr hk (by decide) dX12_letterAt_35 (prF hF)
  · refine r_aload_n cx dX12_letterAt_8 (lv_at hl 0 rfl) ?_
    refine gf12_24 cx hP dX12_letterAt_9 ?_
    refine r_iload_n cx dX12_letterAt_12 (lv_at hl 1 rfl) ?_
    refine r_iald cx hP (dMr (by decide)) rfl dX12_letterAt_13 hF (fun v2 hF => ?_)
    refine r_bipush cx 97 dX12_letterAt_14 (by decide) ?_
    refine r_icmp_lt cx 34 dX12_letterAt_16 (by decide) hF (fun hF => ?_) (fun hF => ?_)
    · refine r_iconst cx 0 dX12_letterAt_34 (by decide) ?_
      exact r_zret cx hP hr hk (by decide) dX12_letterAt_35 (prF hF)
    · refine r_aload_n cx dX12_letterAt_19 (lv_at hl 0 rfl) ?_
      refine gf12_24 cx hP dX12_letterAt_20 ?_
      refine r_iload_n cx dX12_letterAt_23 (lv_at hl 1 rfl) ?_
      refine r_iald cx hP (dMr (by decide)) rfl dX12_letterAt_24 hF (fun v3 hF => ?_)
      refine r_bipush cx 122 dX12_letterAt_25 (by decide) ?_
      refine r_icmp_gt cx 34 dX12_letterAt_27 (by decide) hF (fun hF => ?_) (fun hF => ?_)
      · refine r_iconst cx 0 dX12_letterAt_34 (by decide) ?_
        exact r_zret cx hP hr hk (by decide) dX12_letterAt_35 (prF hF)
      · refine r_iconst cx 1 dX12_letterAt_30 (by decide) ?_
        refine r_goto cx 35 dX12_letterAt_31 (by decide) ?_
        exact r_zret cx hP hr hk (by decide) dX12_letterAt_35 (prF hF)
set_option maxHeartbeats 4000000 in
set_option maxRecDepth 100000 in
theorem w12_digitAt (l : Launch) (Γ : Wc) (ad : Nat → Nat → Nat) (A : Nat → Prop) (p1 : Int32) (σ : Sig) (r : Int32) (hF : f12_digitAt p1 σ = some r) : MI l SM Γ ad A yX12_digitAt cX12_digitAt 2 (some .boolean) 0 0 [.ref (ad 0 0), .int p1] σ r σ := by
  refine MI.of (by decide) (Nat.le_of_ble_eq_true rfl) ?_
  intro p e s m args below meth c ls cx hr hk hP hl
  have hl : lv_has ls 2 [(0, .ref (ad 0 0)), (1, .int p1)] := hl
  rw [f12_digitAt] at hF
  refine r_iload_n cx dX12_digitAt_0 (lv_at hl 1 rfl) ?_
  refine r_aload_n cx dX12_digitAt_1 (lv_at hl 0 rfl) ?_
  refine gf12_195 cx hP dX12_digitAt_2 hF (fun v1 hF => ?_)
  refine r_icmp_ge cx 34 dX12_digitAt_5 (by decide) hF (fun hF => ?_) (fun hF => ?_)
  · refine r_iconst cx 0 dX12_digitAt_34 (by decide) ?_
    exact r_zret cx hP hr hk (by decide) dX12_digitAt_35 (prF hF)
  · refine r_aload_n cx dX12_digitAt_8 (lv_at hl 0 rfl) ?_
    refine gf12_24 cx hP dX12_digitAt_9 ?_
    refine r_iload_n cx dX12_digitAt_12 (lv_at hl 1 rfl) ?_
    refine r_iald cx hP (dMr (by decide)) rfl dX12_digitAt_13 hF (fun v2 hF => ?_)
    refine r_bipush cx 48 dX12_digitAt_14 (by decide) ?_
    refine r_icmp_lt cx 34 dX12_digitAt_16 (by decide) hF (fun hF => ?_) (fun hF => ?_)
    · refine r_iconst cx 0 dX12_digitAt_34 (by decide) ?_
      exact r_zret cx hP hr hk (by decide) dX12_digitAt_35 (prF hF)
    · refine r_aload_n cx dX12_digitAt_19 (lv_at hl 0 rfl) ?_
      refine gf12_24 cx hP dX12_digitAt_20 ?_
      refine r_iload_n cx dX12_digitAt_23 (lv_at hl 1 rfl) ?_
      refine r_iald cx hP (dMr (by decide)) rfl dX12_digitAt_24 hF (fun v3 hF => ?_)
      refine r_bipush cx 57 dX12_digitAt_25 (by decide) ?_
      refine r_icmp_gt cx 34 dX12_digitAt_27 (by decide) hF (fun hF => ?_) (fun hF => ?_)
      · refine r_iconst cx 0 dX12_digitAt_34 (by decide) ?_
        exact r_zret cx hP hr hk (by decide) dX12_digitAt_35 (prF hF)
      · refine r_iconst cx 1 dX12_digitAt_30 (by decide) ?_
        refine r_goto cx 35 dX12_digitAt_31 (by decide) ?_
        exact r_zret cx hP hr hk (by decide) dX12_digitAt_35 (prF hF)
set_option maxHeartbeats 4000000 in
set_option maxRecDepth 100000 in
theorem w12_scan (l : Launch) (Γ : Wc) (ad : Nat → Nat → Nat) (A : Nat → Prop)  (σ : Sig) (σ1 : Sig) (hF : f12_scan  σ = some σ1) : MV l SM Γ ad A yX12_scan cX12_scan 1 1 21 [.ref (ad 0 0)] σ σ1 := by
  refine MV.of (by decide) (Nat.le_of_ble_eq_true rfl) ?_
  intro p e s m args below meth c ls cx hr hk hP hl
  have hl : lv_has ls 1 [(0, .ref (ad 0 0))] := hl
  rw [f12_scan] at hF
  generalize hH0 : s.heap = H0 at hP ⊢
  generalize ([] : List Loc) = locs0 at hP ⊢
  clear hH0
  have b39 : ∀ (rc : Sig → Option (Sig)) (ih : ∀ (σ : Sig) (H : Heap) (locs : List Loc) (ls : Array Slot), PS SM Γ ad A s σ H locs → lv_has ls 1 [(0, .ref (ad 0 0))] → rc σ = some σ1 → W p l e (rmz 1 21) s m args below meth c H locs 0 0 (QV SM Γ ad A below args s σ1) (F0 m 0 ls [])) (σ : Sig) (H : Heap) (locs : List Loc) (ls : Array Slot), PS SM Γ ad A s σ H locs → lv_has ls 1 [(0, .ref (ad 0 0))] → f12_scan_b39 rc σ = some σ1 → W p l e (rmz 1 21) s m args below meth c H locs 0 0 (QV SM Γ ad A below args s σ1) (F0 m 39 ls []) := by
    intro rc ih σ H locs ls hP hl hF
    rw [f12_scan_b39] at hF
    refine r_aload_n cx dX12_scan_39 (lv_at hl 0 rfl) ?_
    refine r_dup cx dX12_scan_40 rfl ?_
    refine gf12_198 cx hP dX12_scan_41 hF (fun v1 hF => ?_)
    refine r_iconst cx 1 dX12_scan_44 (by decide) ?_
    refine r_iadd cx dX12_scan_45 hF (fun v2 hF => ?_)
    refine pf12_198 cx hP dX12_scan_46 hF (fun s3 H locs hP hF => ?_)
    refine r_goto cx 0 dX12_scan_49 (by decide) ?_
    exact ih s3 _ _ _ hP (lv_sub hl [0] rfl) hF
  have b90 : ∀ (fu : Nat) (σ : Sig) (H : Heap) (locs : List Loc) (ls : Array Slot), PS SM Γ ad A s σ H locs → lv_has ls 1 [(0, .ref (ad 0 0))] → f12_scan_b90 fu σ = some σ1 → W p l e (rmz 1 21) s m args below meth c H locs 0 0 (QV SM Γ ad A below args s σ1) (F0 m 90 ls []) := by
    intro fu
    induction fu with
    | zero => intro σ H locs ls hP hl hF; exact nofu hF
    | succ fu ih =>
      intro σ H locs ls hP hl hF
      rw [f12_scan_b90] at hF
      refine r_aload_n cx dX12_scan_90 (lv_at hl 0 rfl) ?_
      refine r_aload_n cx dX12_scan_91 (lv_at hl 0 rfl) ?_
      refine gf12_198 cx hP dX12_scan_92 hF (fun v4 hF => ?_)
      obtain ⟨v5, hc, hF⟩ := bnd_some hF
      refine r_callVi cx hP (As := [.int v4]) (w12_letterAt l Γ ad A v4 σ v5 hc) mw12_207 ⟨Nat.le_of_ble_eq_true rfl, Nat.le_of_ble_eq_true rfl⟩ (dMr (by decide)) rfl rfl rfl (Nat.le_of_ble_eq_true rfl) hl.1 ⟨Nat.zero_le _, Nat.zero_le _⟩ dX12_scan_95 (fun H locs hP => ?_)
      refine r_if_eq cx 114 dX12_scan_98 (by decide) hF (fun hF => ?_) (fun hF => ?_)
      · refine r_aload_n cx dX12_scan_114 (lv_at hl 0 rfl) ?_
        refine r_iconst cx 3 dX12_scan_115 (by decide) ?_
        refine pf12_204 cx hP dX12_scan_116 hF (fun s6 H locs hP hF => ?_)
        refine r_goto cx 264 dX12_scan_119 (by decide) ?_
        exact r_vret cx hP hr hk dX12_scan_264 hF
      · refine r_aload_n cx dX12_scan_101 (lv_at hl 0 rfl) ?_
        refine r_dup cx dX12_scan_102 rfl ?_
        refine gf12_198 cx hP dX12_scan_103 hF (fun v7 hF => ?_)
        refine r_iconst cx 1 dX12_scan_106 (by decide) ?_
        refine r_iadd cx dX12_scan_107 hF (fun v8 hF => ?_)
        refine pf12_198 cx hP dX12_scan_108 hF (fun s9 H locs hP hF => ?_)
        refine r_goto cx 90 dX12_scan_111 (by decide) ?_
        exact ih s9 _ _ _ hP (lv_sub hl [0] rfl) hF
  have b190 : ∀ (rc : Sig → Option (Sig)) (ih : ∀ (σ : Sig) (H : Heap) (locs : List Loc) (ls : Array Slot), PS SM Γ ad A s σ H locs → lv_has ls 1 [(0, .ref (ad 0 0))] → rc σ = some σ1 → W p l e (rmz 1 21) s m args below meth c H locs 0 0 (QV SM Γ ad A below args s σ1) (F0 m 138 ls [])) (t1 : Int32) (σ : Sig) (H : Heap) (locs : List Loc) (ls : Array Slot), PS SM Γ ad A s σ H locs → lv_has ls 1 [(0, .ref (ad 0 0))] → f12_scan_b190 rc t1 σ = some σ1 → W p l e (rmz 1 21) s m args below meth c H locs 0 0 (QV SM Γ ad A below args s σ1) (F0 m 190 ls [.int t1, .ref (ad 0 0)]) := by
    intro rc ih t1 σ H locs ls hP hl hF
    rw [f12_scan_b190] at hF
    refine pf12_213 cx hP dX12_scan_190 hF (fun s10 H locs hP hF => ?_)
    refine r_aload_n cx dX12_scan_193 (lv_at hl 0 rfl) ?_
    refine r_dup cx dX12_scan_194 rfl ?_
    refine gf12_198 cx hP dX12_scan_195 hF (fun v11 hF => ?_)
    refine r_iconst cx 1 dX12_scan_198 (by decide) ?_
    refine r_iadd cx dX12_scan_199 hF (fun v12 hF => ?_)
    refine pf12_198 cx hP dX12_scan_200 hF (fun s13 H locs hP hF => ?_)
    refine r_goto cx 138 dX12_scan_203 (by decide) ?_
    exact ih s13 _ _ _ hP (lv_sub hl [0] rfl) hF
  have b225 : ∀ (t1 : Int32) (σ : Sig) (H : Heap) (locs : List Loc) (ls : Array Slot), PS SM Γ ad A s σ H locs → lv_has ls 1 [] → f12_scan_b225 t1 σ = some σ1 → W p l e (rmz 1 21) s m args below meth c H locs 0 0 (QV SM Γ ad A below args s σ1) (F0 m 225 ls [.int t1, .ref (ad 0 0)]) := by
    intro t1 σ H locs ls hP hl hF
    rw [f12_scan_b225] at hF
    refine pf12_204 cx hP dX12_scan_225 hF (fun s14 H locs hP hF => ?_)
    refine r_goto cx 264 dX12_scan_228 (by decide) ?_
    exact r_vret cx hP hr hk dX12_scan_264 hF
  have b138 : ∀ (fu : Nat) (σ : Sig) (H : Heap) (locs : List Loc) (ls : Array Slot), PS SM Γ ad A s σ H locs → lv_has ls 1 [(0, .ref (ad 0 0))] → f12_scan_b138 fu σ = some σ1 → W p l e (rmz 1 21) s m args below meth c H locs 0 0 (QV SM Γ ad A below args s σ1) (F0 m 138 ls []) := by
    intro fu
    induction fu with
    | zero => intro σ H locs ls hP hl hF; exact nofu hF
    | succ fu ih =>
      intro σ H locs ls hP hl hF
      rw [f12_scan_b138] at hF
      refine r_aload_n cx dX12_scan_138 (lv_at hl 0 rfl) ?_
      refine r_aload_n cx dX12_scan_139 (lv_at hl 0 rfl) ?_
      refine gf12_198 cx hP dX12_scan_140 hF (fun v15 hF => ?_)
      obtain ⟨v16, hc, hF⟩ := bnd_some hF
      refine r_callVi cx hP (As := [.int v15]) (w12_digitAt l Γ ad A v15 σ v16 hc) mw12_210 ⟨Nat.le_of_ble_eq_true rfl, Nat.le_of_ble_eq_true rfl⟩ (dMr (by decide)) rfl rfl rfl (Nat.le_of_ble_eq_true rfl) hl.1 ⟨Nat.zero_le _, Nat.zero_le _⟩ dX12_scan_143 (fun H locs hP => ?_)
      refine r_if_eq cx 206 dX12_scan_146 (by decide) hF (fun hF => ?_) (fun hF => ?_)
      · refine r_aload_n cx dX12_scan_206 (lv_at hl 0 rfl) ?_
        refine r_aload_n cx dX12_scan_207 (lv_at hl 0 rfl) ?_
        refine gf12_198 cx hP dX12_scan_208 hF (fun v17 hF => ?_)
        refine r_aload_n cx dX12_scan_211 (lv_at hl 0 rfl) ?_
        refine gf12_201 cx hP dX12_scan_212 hF (fun v18 hF => ?_)
        refine r_isub cx dX12_scan_215 hF (fun v19 hF => ?_)
        refine r_iconst cx 4 dX12_scan_216 (by decide) ?_
        refine r_icmp_le cx 224 dX12_scan_217 (by decide) hF (fun hF => ?_) (fun hF => ?_)
        · refine r_iconst cx 2 dX12_scan_224 (by decide) ?_
          exact b225 2 σ _ _ _ hP (lv_sub hl [] rfl) hF
        · refine r_iconst cx 4 dX12_scan_220 (by decide) ?_
          refine r_goto cx 225 dX12_scan_221 (by decide) ?_
          exact b225 4 σ _ _ _ hP (lv_sub hl [] rfl) hF
      · refine r_aload_n cx dX12_scan_149 (lv_at hl 0 rfl) ?_
        refine r_aload_n cx dX12_scan_150 (lv_at hl 0 rfl) ?_
        refine gf12_198 cx hP dX12_scan_151 hF (fun v20 hF => ?_)
        refine r_aload_n cx dX12_scan_154 (lv_at hl 0 rfl) ?_
        refine gf12_201 cx hP dX12_scan_155 hF (fun v21 hF => ?_)
        refine r_isub cx dX12_scan_158 hF (fun v22 hF => ?_)
        refine r_iconst cx 4 dX12_scan_159 (by decide) ?_
        refine r_icmp_ge cx 186 dX12_scan_160 (by decide) hF (fun hF => ?_) (fun hF => ?_)
        · refine r_aload_n cx dX12_scan_186 (lv_at hl 0 rfl) ?_
          refine gf12_213 cx hP dX12_scan_187 hF (fun v23 hF => ?_)
          exact b190 (f12_scan_b138 fu) ih v23 σ _ _ _ hP (lv_sub hl [0] rfl) hF
        · refine r_bipush cx 10 dX12_scan_163 (by decide) ?_
          refine r_aload_n cx dX12_scan_165 (lv_at hl 0 rfl) ?_
          refine gf12_213 cx hP dX12_scan_166 hF (fun v24 hF => ?_)
          refine r_imul cx dX12_scan_169 hF (fun v25 hF => ?_)
          refine r_aload_n cx dX12_scan_170 (lv_at hl 0 rfl) ?_
          refine gf12_24 cx hP dX12_scan_171 ?_
          refine r_aload_n cx dX12_scan_174 (lv_at hl 0 rfl) ?_
          refine gf12_198 cx hP dX12_scan_175 hF (fun v26 hF => ?_)
          refine r_iald cx hP (dMr (by decide)) rfl dX12_scan_178 hF (fun v27 hF => ?_)
          refine r_iadd cx dX12_scan_179 hF (fun v28 hF => ?_)
          refine r_bipush cx 48 dX12_scan_180 (by decide) ?_
          refine r_isub cx dX12_scan_182 hF (fun v29 hF => ?_)
          refine r_goto cx 190 dX12_scan_183 (by decide) ?_
          exact b190 (f12_scan_b138 fu) ih v29 σ _ _ _ hP (lv_sub hl [0] rfl) hF
  have b251 : ∀ (t1 : Int32) (σ : Sig) (H : Heap) (locs : List Loc) (ls : Array Slot), PS SM Γ ad A s σ H locs → lv_has ls 1 [(0, .ref (ad 0 0))] → f12_scan_b251 t1 σ = some σ1 → W p l e (rmz 1 21) s m args below meth c H locs 0 0 (QV SM Γ ad A below args s σ1) (F0 m 251 ls [.int t1, .ref (ad 0 0)]) := by
    intro t1 σ H locs ls hP hl hF
    rw [f12_scan_b251] at hF
    refine pf12_204 cx hP dX12_scan_251 hF (fun s30 H locs hP hF => ?_)
    refine r_aload_n cx dX12_scan_254 (lv_at hl 0 rfl) ?_
    refine r_dup cx dX12_scan_255 rfl ?_
    refine gf12_198 cx hP dX12_scan_256 hF (fun v31 hF => ?_)
    refine r_iconst cx 1 dX12_scan_259 (by decide) ?_
    refine r_iadd cx dX12_scan_260 hF (fun v32 hF => ?_)
    refine pf12_198 cx hP dX12_scan_261 hF (fun s33 H locs hP hF => ?_)
    exact r_vret cx hP hr hk dX12_scan_264 hF
  have b52 : ∀ (σ : Sig) (H : Heap) (locs : List Loc) (ls : Array Slot), PS SM Γ ad A s σ H locs → lv_has ls 1 [(0, .ref (ad 0 0))] → f12_scan_b52 σ = some σ1 → W p l e (rmz 1 21) s m args below meth c H locs 0 0 (QV SM Γ ad A below args s σ1) (F0 m 52 ls []) := by
    intro σ H locs ls hP hl hF
    rw [f12_scan_b52] at hF
    refine r_aload_n cx dX12_scan_52 (lv_at hl 0 rfl) ?_
    refine r_aload_n cx dX12_scan_53 (lv_at hl 0 rfl) ?_
    refine gf12_198 cx hP dX12_scan_54 hF (fun v34 hF => ?_)
    refine pf12_201 cx hP dX12_scan_57 hF (fun s35 H locs hP hF => ?_)
    refine r_aload_n cx dX12_scan_60 (lv_at hl 0 rfl) ?_
    refine gf12_198 cx hP dX12_scan_61 hF (fun v36 hF => ?_)
    refine r_aload_n cx dX12_scan_64 (lv_at hl 0 rfl) ?_
    refine gf12_195 cx hP dX12_scan_65 hF (fun v37 hF => ?_)
    refine r_icmp_ne cx 79 dX12_scan_68 (by decide) hF (fun hF => ?_) (fun hF => ?_)
    · refine r_aload_n cx dX12_scan_79 (lv_at hl 0 rfl) ?_
      refine r_aload_n cx dX12_scan_80 (lv_at hl 0 rfl) ?_
      refine gf12_198 cx hP dX12_scan_81 hF (fun v38 hF => ?_)
      obtain ⟨v39, hc, hF⟩ := bnd_some hF
      refine r_callVi cx hP (As := [.int v38]) (w12_letterAt l Γ ad A v38 s35 v39 hc) mw12_207 ⟨Nat.le_of_ble_eq_true rfl, Nat.le_of_ble_eq_true rfl⟩ (dMr (by decide)) rfl rfl rfl (Nat.le_of_ble_eq_true rfl) hl.1 ⟨Nat.zero_le _, Nat.zero_le _⟩ dX12_scan_84 (fun H locs hP => ?_)
      refine r_if_eq cx 122 dX12_scan_87 (by decide) hF (fun hF => ?_) (fun hF => ?_)
      · refine r_aload_n cx dX12_scan_122 (lv_at hl 0 rfl) ?_
        refine r_aload_n cx dX12_scan_123 (lv_at hl 0 rfl) ?_
        refine gf12_198 cx hP dX12_scan_124 hF (fun v40 hF => ?_)
        obtain ⟨v41, hc, hF⟩ := bnd_some hF
        refine r_callVi cx hP (As := [.int v40]) (w12_digitAt l Γ ad A v40 s35 v41 hc) mw12_210 ⟨Nat.le_of_ble_eq_true rfl, Nat.le_of_ble_eq_true rfl⟩ (dMr (by decide)) rfl rfl rfl (Nat.le_of_ble_eq_true rfl) hl.1 ⟨Nat.zero_le _, Nat.zero_le _⟩ dX12_scan_127 (fun H locs hP => ?_)
        refine r_if_eq cx 231 dX12_scan_130 (by decide) hF (fun hF => ?_) (fun hF => ?_)
        · refine r_aload_n cx dX12_scan_231 (lv_at hl 0 rfl) ?_
          refine r_aload_n cx dX12_scan_232 (lv_at hl 0 rfl) ?_
          refine gf12_24 cx hP dX12_scan_233 ?_
          refine r_aload_n cx dX12_scan_236 (lv_at hl 0 rfl) ?_
          refine gf12_198 cx hP dX12_scan_237 hF (fun v42 hF => ?_)
          refine r_iald cx hP (dMr (by decide)) rfl dX12_scan_240 hF (fun v43 hF => ?_)
          refine r_bipush cx 59 dX12_scan_241 (by decide) ?_
          refine r_icmp_ne cx 250 dX12_scan_243 (by decide) hF (fun hF => ?_) (fun hF => ?_)
          · refine r_iconst cx 4 dX12_scan_250 (by decide) ?_
            exact b251 4 s35 _ _ _ hP (lv_sub hl [0] rfl) hF
          · refine r_iconst cx 1 dX12_scan_246 (by decide) ?_
            refine r_goto cx 251 dX12_scan_247 (by decide) ?_
            exact b251 1 s35 _ _ _ hP (lv_sub hl [0] rfl) hF
        · refine r_aload_n cx dX12_scan_133 (lv_at hl 0 rfl) ?_
          refine r_iconst cx 0 dX12_scan_134 (by decide) ?_
          refine pf12_213 cx hP dX12_scan_135 hF (fun s44 H locs hP hF => ?_)
          exact b138 FU s44 _ _ _ hP (lv_sub hl [0] rfl) hF
      · exact b90 FU s35 _ _ _ hP (lv_sub hl [0] rfl) hF
    · refine r_aload_n cx dX12_scan_71 (lv_at hl 0 rfl) ?_
      refine r_iconst cx 0 dX12_scan_72 (by decide) ?_
      refine pf12_204 cx hP dX12_scan_73 hF (fun s45 H locs hP hF => ?_)
      refine r_goto cx 264 dX12_scan_76 (by decide) ?_
      exact r_vret cx hP hr hk dX12_scan_264 hF
  have b0 : ∀ (fu : Nat) (σ : Sig) (H : Heap) (locs : List Loc) (ls : Array Slot), PS SM Γ ad A s σ H locs → lv_has ls 1 [(0, .ref (ad 0 0))] → f12_scan_b0 fu σ = some σ1 → W p l e (rmz 1 21) s m args below meth c H locs 0 0 (QV SM Γ ad A below args s σ1) (F0 m 0 ls []) := by
    intro fu
    induction fu with
    | zero => intro σ H locs ls hP hl hF; exact nofu hF
    | succ fu ih =>
      intro σ H locs ls hP hl hF
      rw [f12_scan_b0] at hF
      refine r_aload_n cx dX12_scan_0 (lv_at hl 0 rfl) ?_
      refine gf12_198 cx hP dX12_scan_1 hF (fun v46 hF => ?_)
      refine r_aload_n cx dX12_scan_4 (lv_at hl 0 rfl) ?_
      refine gf12_195 cx hP dX12_scan_5 hF (fun v47 hF => ?_)
      refine r_icmp_ge cx 52 dX12_scan_8 (by decide) hF (fun hF => ?_) (fun hF => ?_)
      · exact b52 σ _ _ _ hP (lv_sub hl [0] rfl) hF
      · refine r_aload_n cx dX12_scan_11 (lv_at hl 0 rfl) ?_
        refine gf12_24 cx hP dX12_scan_12 ?_
        refine r_aload_n cx dX12_scan_15 (lv_at hl 0 rfl) ?_
        refine gf12_198 cx hP dX12_scan_16 hF (fun v48 hF => ?_)
        refine r_iald cx hP (dMr (by decide)) rfl dX12_scan_19 hF (fun v49 hF => ?_)
        refine r_bipush cx 32 dX12_scan_20 (by decide) ?_
        refine r_icmp_eq cx 39 dX12_scan_22 (by decide) hF (fun hF => ?_) (fun hF => ?_)
        · exact b39 (f12_scan_b0 fu) ih σ _ _ _ hP (lv_sub hl [0] rfl) hF
        · refine r_aload_n cx dX12_scan_25 (lv_at hl 0 rfl) ?_
          refine gf12_24 cx hP dX12_scan_26 ?_
          refine r_aload_n cx dX12_scan_29 (lv_at hl 0 rfl) ?_
          refine gf12_198 cx hP dX12_scan_30 hF (fun v50 hF => ?_)
          refine r_iald cx hP (dMr (by decide)) rfl dX12_scan_33 hF (fun v51 hF => ?_)
          refine r_bipush cx 10 dX12_scan_34 (by decide) ?_
          refine r_icmp_ne cx 52 dX12_scan_36 (by decide) hF (fun hF => ?_) (fun hF => ?_)
          · exact b52 σ _ _ _ hP (lv_sub hl [0] rfl) hF
          · exact b39 (f12_scan_b0 fu) ih σ _ _ _ hP (lv_sub hl [0] rfl) hF
  exact b0 FU σ _ _ _ hP (lv_sub hl [0] rfl) hF
set_option maxHeartbeats 4000000 in
set_option maxRecDepth 100000 in
theorem w12_isWord (l : Launch) (Γ : Wc) (ad : Nat → Nat → Nat) (A : Nat → Prop) (k1 : Nat) (hk1 : k1 < strN) (σ : Sig) (r : Int32) (hF : f12_isWord k1 σ = some r) : MI l SM Γ ad A yX12_isWord cX12_isWord 4 (some .boolean) 4 86 [.ref (ad 0 0), .ref (Γ.2.2.1 k1)] σ r σ := by
  refine MI.of (by decide) (Nat.le_of_ble_eq_true rfl) ?_
  intro p e s m args below meth c ls cx hr hk hP hl
  have hl : lv_has ls 4 [(0, .ref (ad 0 0)), (1, .ref (Γ.2.2.1 k1))] := hl
  rw [f12_isWord] at hF
  generalize hH0 : s.heap = H0 at hP ⊢
  generalize ([] : List Loc) = locs0 at hP ⊢
  clear hH0
  have b75 : ∀ (rc : Int32 → Int32 → Sig → Option (Int32)) (ih : ∀ (x2 : Int32) (x3 : Int32) (H : Heap) (locs : List Loc) (ls : Array Slot), PS SM Γ ad A s σ H locs → lv_has ls 4 [(0, .ref (ad 0 0)), (1, .ref (Γ.2.2.1 k1)), (2, .int x2), (3, .int x3)] → rc x2 x3 σ = some r → W p l e (rmz 4 86) s m args below meth c H locs 0 0 (QI SM Γ ad A below args s r σ) (F0 m 39 ls [])) (x3 : Int32) (t0 : Int32) (H : Heap) (locs : List Loc) (ls : Array Slot), PS SM Γ ad A s σ H locs → lv_has ls 4 [(0, .ref (ad 0 0)), (1, .ref (Γ.2.2.1 k1)), (3, .int x3)] → f12_isWord_b75 k1 rc x3 t0 σ = some r → W p l e (rmz 4 86) s m args below meth c H locs 0 0 (QI SM Γ ad A below args s r σ) (F0 m 75 ls [.int t0]) := by
    intro rc ih x3 t0 H locs ls hP hl hF
    rw [f12_isWord_b75] at hF
    refine r_istore_n cx [(2, .int t0), (0, .ref (ad 0 0)), (1, .ref (Γ.2.2.1 k1)), (3, .int x3)] dX12_isWord_75 hl (by decide) rfl (fun ls hl => ?_)
    refine r_iinc cx (k := 3) (w := 1) (fun v1 => [(3, .int v1), (2, .int t0), (0, .ref (ad 0 0)), (1, .ref (Γ.2.2.1 k1))]) dX12_isWord_76 hl rfl (by decide) (by decide) hF (fun _ => rfl) (fun v1 ls hF hl => ?_)
    refine r_goto cx 39 dX12_isWord_79 (by decide) ?_
    exact ih t0 v1 _ _ _ hP (lv_sub hl [2, 3, 1, 0] rfl) hF
  have b39 : ∀ (fu : Nat) (x2 : Int32) (x3 : Int32) (H : Heap) (locs : List Loc) (ls : Array Slot), PS SM Γ ad A s σ H locs → lv_has ls 4 [(0, .ref (ad 0 0)), (1, .ref (Γ.2.2.1 k1)), (2, .int x2), (3, .int x3)] → f12_isWord_b39 k1 fu x2 x3 σ = some r → W p l e (rmz 4 86) s m args below meth c H locs 0 0 (QI SM Γ ad A below args s r σ) (F0 m 39 ls []) := by
    intro fu
    induction fu with
    | zero => intro x2 x3 H locs ls hP hl hF; exact nofu hF
    | succ fu ih =>
      intro x2 x3 H locs ls hP hl hF
      rw [f12_isWord_b39] at hF
      refine r_iload_n cx dX12_isWord_39 (lv_at hl 2 rfl) ?_
      refine r_if_eq cx 82 dX12_isWord_40 (by decide) hF (fun hF => ?_) (fun hF => ?_)
      · refine r_iload_n cx dX12_isWord_82 (lv_at hl 2 rfl) ?_
        exact r_zret cx hP hr hk (nar_gz (gz_some hF).1) dX12_isWord_83 (prF (gz_some hF).2)
      · refine r_iload_n cx dX12_isWord_43 (lv_at hl 3 rfl) ?_
        refine r_aload_n cx dX12_isWord_44 (lv_at hl 1 rfl) ?_
        refine r_strlen cx hP hk1 mw12_219 ⟨Nat.le_of_ble_eq_true rfl, Nat.le_of_ble_eq_true rfl⟩ hl.1 (Nat.le_of_ble_eq_true rfl) ⟨Nat.zero_le _, Nat.zero_le _⟩ dX12_isWord_45 hF (fun v2 H locs hP hF => ?_)
        refine r_icmp_ge cx 82 dX12_isWord_48 (by decide) hF (fun hF => ?_) (fun hF => ?_)
        · refine r_iload_n cx dX12_isWord_82 (lv_at hl 2 rfl) ?_
          exact r_zret cx hP hr hk (nar_gz (gz_some hF).1) dX12_isWord_83 (prF (gz_some hF).2)
        · refine r_aload_n cx dX12_isWord_51 (lv_at hl 0 rfl) ?_
          refine gf12_24 cx hP dX12_isWord_52 ?_
          refine r_aload_n cx dX12_isWord_55 (lv_at hl 0 rfl) ?_
          refine gf12_201 cx hP dX12_isWord_56 hF (fun v3 hF => ?_)
          refine r_iload_n cx dX12_isWord_59 (lv_at hl 3 rfl) ?_
          refine r_iadd cx dX12_isWord_60 hF (fun v4 hF => ?_)
          refine r_iald cx hP (dMr (by decide)) rfl dX12_isWord_61 hF (fun v5 hF => ?_)
          refine r_aload_n cx dX12_isWord_62 (lv_at hl 1 rfl) ?_
          refine r_iload_n cx dX12_isWord_63 (lv_at hl 3 rfl) ?_
          refine r_charAt cx hP hk1 mw12_224 ⟨Nat.le_of_ble_eq_true rfl, Nat.le_of_ble_eq_true rfl⟩ rfl (Nat.le_of_ble_eq_true rfl) hl.1 ⟨Nat.zero_le _, Nat.zero_le _⟩ dX12_isWord_64 hF (fun v6 H locs hP hF => ?_)
          refine r_icmp_ne cx 74 dX12_isWord_67 (by decide) hF (fun hF => ?_) (fun hF => ?_)
          · refine r_iconst cx 0 dX12_isWord_74 (by decide) ?_
            exact b75 (f12_isWord_b39 k1 fu) ih x3 0 _ _ _ hP (lv_sub hl [0, 1, 3] rfl) hF
          · refine r_iconst cx 1 dX12_isWord_70 (by decide) ?_
            refine r_goto cx 75 dX12_isWord_71 (by decide) ?_
            exact b75 (f12_isWord_b39 k1 fu) ih x3 1 _ _ _ hP (lv_sub hl [0, 1, 3] rfl) hF
  have b36 : ∀ (t0 : Int32) (H : Heap) (locs : List Loc) (ls : Array Slot), PS SM Γ ad A s σ H locs → lv_has ls 4 [(0, .ref (ad 0 0)), (1, .ref (Γ.2.2.1 k1))] → f12_isWord_b36 k1 t0 σ = some r → W p l e (rmz 4 86) s m args below meth c H locs 0 0 (QI SM Γ ad A below args s r σ) (F0 m 36 ls [.int t0]) := by
    intro t0 H locs ls hP hl hF
    rw [f12_isWord_b36] at hF
    refine r_istore_n cx [(2, .int t0), (0, .ref (ad 0 0)), (1, .ref (Γ.2.2.1 k1))] dX12_isWord_36 hl (by decide) rfl (fun ls hl => ?_)
    refine r_iconst cx 0 dX12_isWord_37 (by decide) ?_
    refine r_istore_n cx [(3, .int 0), (2, .int t0), (0, .ref (ad 0 0)), (1, .ref (Γ.2.2.1 k1))] dX12_isWord_38 hl (by decide) rfl (fun ls hl => ?_)
    exact b39 FU t0 0 _ _ _ hP (lv_sub hl [2, 3, 1, 0] rfl) hF
  have b35 : ∀ (H : Heap) (locs : List Loc) (ls : Array Slot), PS SM Γ ad A s σ H locs → lv_has ls 4 [(0, .ref (ad 0 0)), (1, .ref (Γ.2.2.1 k1))] → f12_isWord_b35 k1 σ = some r → W p l e (rmz 4 86) s m args below meth c H locs 0 0 (QI SM Γ ad A below args s r σ) (F0 m 35 ls []) := by
    intro H locs ls hP hl hF
    rw [f12_isWord_b35] at hF
    refine r_iconst cx 0 dX12_isWord_35 (by decide) ?_
    exact b36 0 _ _ _ hP (lv_sub hl [0, 1] rfl) hF
  refine r_aload_n cx dX12_isWord_0 (lv_at hl 0 rfl) ?_
  refine gf12_216 cx hP dX12_isWord_1 hF (fun v7 hF => ?_)
  refine r_if_ne cx 35 dX12_isWord_4 (by decide) hF (fun hF => ?_) (fun hF => ?_)
  · exact b35 _ _ _ hP (lv_sub hl [0, 1] rfl) hF
  · refine r_aload_n cx dX12_isWord_7 (lv_at hl 0 rfl) ?_
    refine gf12_204 cx hP dX12_isWord_8 hF (fun v8 hF => ?_)
    refine r_iconst cx 3 dX12_isWord_11 (by decide) ?_
    refine r_icmp_ne cx 35 dX12_isWord_12 (by decide) hF (fun hF => ?_) (fun hF => ?_)
    · exact b35 _ _ _ hP (lv_sub hl [0, 1] rfl) hF
    · refine r_aload_n cx dX12_isWord_15 (lv_at hl 0 rfl) ?_
      refine gf12_198 cx hP dX12_isWord_16 hF (fun v9 hF => ?_)
      refine r_aload_n cx dX12_isWord_19 (lv_at hl 0 rfl) ?_
      refine gf12_201 cx hP dX12_isWord_20 hF (fun v10 hF => ?_)
      refine r_isub cx dX12_isWord_23 hF (fun v11 hF => ?_)
      refine r_aload_n cx dX12_isWord_24 (lv_at hl 1 rfl) ?_
      refine r_strlen cx hP hk1 mw12_219 ⟨Nat.le_of_ble_eq_true rfl, Nat.le_of_ble_eq_true rfl⟩ hl.1 (Nat.le_of_ble_eq_true rfl) ⟨Nat.zero_le _, Nat.zero_le _⟩ dX12_isWord_25 hF (fun v12 H locs hP hF => ?_)
      refine r_icmp_ne cx 35 dX12_isWord_28 (by decide) hF (fun hF => ?_) (fun hF => ?_)
      · exact b35 _ _ _ hP (lv_sub hl [0, 1] rfl) hF
      · refine r_iconst cx 1 dX12_isWord_31 (by decide) ?_
        refine r_goto cx 36 dX12_isWord_32 (by decide) ?_
        exact b36 1 _ _ _ hP (lv_sub hl [0, 1] rfl) hF
set_option maxHeartbeats 4000000 in
set_option maxRecDepth 100000 in
theorem w12_fail (l : Launch) (Γ : Wc) (ad : Nat → Nat → Nat) (A : Nat → Prop) (p1 : Int32) (σ : Sig) (σ1 : Sig) (hF : f12_fail p1 σ = some σ1) : MV l SM Γ ad A yX12_fail cX12_fail 2 0 0 [.ref (ad 0 0), .int p1] σ σ1 := by
  refine MV.of (by decide) (Nat.le_of_ble_eq_true rfl) ?_
  intro p e s m args below meth c ls cx hr hk hP hl
  have hl : lv_has ls 2 [(0, .ref (ad 0 0)), (1, .int p1)] := hl
  rw [f12_fail] at hF
  refine r_aload_n cx dX12_fail_0 (lv_at hl 0 rfl) ?_
  refine gf12_216 cx hP dX12_fail_1 hF (fun v1 hF => ?_)
  refine r_if_ne cx 20 dX12_fail_4 (by decide) hF (fun hF => ?_) (fun hF => ?_)
  · exact r_vret cx hP hr hk dX12_fail_20 hF
  · refine r_aload_n cx dX12_fail_7 (lv_at hl 0 rfl) ?_
    refine r_iload_n cx dX12_fail_8 (lv_at hl 1 rfl) ?_
    refine pf12_216 cx hP dX12_fail_9 hF (fun s2 H locs hP hF => ?_)
    refine r_aload_n cx dX12_fail_12 (lv_at hl 0 rfl) ?_
    refine r_aload_n cx dX12_fail_13 (lv_at hl 0 rfl) ?_
    refine gf12_201 cx hP dX12_fail_14 hF (fun v3 hF => ?_)
    refine pf12_228 cx hP dX12_fail_17 hF (fun s4 H locs hP hF => ?_)
    exact r_vret cx hP hr hk dX12_fail_20 hF
set_option maxHeartbeats 4000000 in
set_option maxRecDepth 100000 in
theorem w12_good (l : Launch) (Γ : Wc) (ad : Nat → Nat → Nat) (A : Nat → Prop)  (σ : Sig) (r : Int32) (hF : f12_good  σ = some r) : MI l SM Γ ad A yX12_good cX12_good 1 (some .boolean) 0 0 [.ref (ad 0 0)] σ r σ := by
  refine MI.of (by decide) (Nat.le_of_ble_eq_true rfl) ?_
  intro p e s m args below meth c ls cx hr hk hP hl
  have hl : lv_has ls 1 [(0, .ref (ad 0 0))] := hl
  rw [f12_good] at hF
  refine r_aload_n cx dX12_good_0 (lv_at hl 0 rfl) ?_
  refine gf12_216 cx hP dX12_good_1 hF (fun v1 hF => ?_)
  refine r_if_ne cx 11 dX12_good_4 (by decide) hF (fun hF => ?_) (fun hF => ?_)
  · refine r_iconst cx 0 dX12_good_11 (by decide) ?_
    exact r_zret cx hP hr hk (by decide) dX12_good_12 (prF hF)
  · refine r_iconst cx 1 dX12_good_7 (by decide) ?_
    refine r_goto cx 12 dX12_good_8 (by decide) ?_
    exact r_zret cx hP hr hk (by decide) dX12_good_12 (prF hF)
set_option maxHeartbeats 4000000 in
set_option maxRecDepth 100000 in
theorem w12_advance (l : Launch) (Γ : Wc) (ad : Nat → Nat → Nat) (A : Nat → Prop)  (σ : Sig) (σ1 : Sig) (hF : f12_advance  σ = some σ1) : MV l SM Γ ad A yX12_advance cX12_advance 1 2 41 [.ref (ad 0 0)] σ σ1 := by
  refine MV.of (by decide) (Nat.le_of_ble_eq_true rfl) ?_
  intro p e s m args below meth c ls cx hr hk hP hl
  have hl : lv_has ls 1 [(0, .ref (ad 0 0))] := hl
  rw [f12_advance] at hF
  refine r_aload_n cx dX12_advance_0 (lv_at hl 0 rfl) ?_
  obtain ⟨v1, hc, hF⟩ := bnd_some hF
  refine r_callVi cx hP (As := []) (w12_good l Γ ad A σ v1 hc) mw12_231 ⟨Nat.le_of_ble_eq_true rfl, Nat.le_of_ble_eq_true rfl⟩ (dMr (by decide)) rfl rfl rfl (Nat.le_of_ble_eq_true rfl) hl.1 ⟨Nat.zero_le _, Nat.zero_le _⟩ dX12_advance_1 (fun H locs hP => ?_)
  refine r_if_eq cx 11 dX12_advance_4 (by decide) hF (fun hF => ?_) (fun hF => ?_)
  · exact r_vret cx hP hr hk dX12_advance_11 hF
  · refine r_aload_n cx dX12_advance_7 (lv_at hl 0 rfl) ?_
    obtain ⟨s2, hc, hF⟩ := bnd_some hF
    refine r_callVv cx hP (As := []) (w12_scan l Γ ad A σ s2 hc) mw12_234 ⟨Nat.le_of_ble_eq_true rfl, Nat.le_of_ble_eq_true rfl⟩ (dMr (by decide)) rfl rfl rfl (Nat.le_of_ble_eq_true rfl) hl.1 ⟨Nat.zero_le _, Nat.zero_le _⟩ dX12_advance_8 (fun H locs hP => ?_)
    exact r_vret cx hP hr hk dX12_advance_11 hF
set_option maxHeartbeats 4000000 in
set_option maxRecDepth 100000 in
theorem w12_numberHere (l : Launch) (Γ : Wc) (ad : Nat → Nat → Nat) (A : Nat → Prop) (p1 : Int32) (p2 : Int32) (σ : Sig) (r : Int32) (σ1 : Sig) (hF : f12_numberHere p1 p2 σ = some (r, σ1)) : MI l SM Γ ad A yX12_numberHere cX12_numberHere 3 (some .int) 1 21 [.ref (ad 0 0), .int p1, .int p2] σ r σ1 := by
  refine MI.of (by decide) (Nat.le_of_ble_eq_true rfl) ?_
  intro p e s m args below meth c ls cx hr hk hP hl
  have hl : lv_has ls 3 [(0, .ref (ad 0 0)), (1, .int p1), (2, .int p2)] := hl
  rw [f12_numberHere] at hF
  generalize hH0 : s.heap = H0 at hP ⊢
  generalize ([] : List Loc) = locs0 at hP ⊢
  clear hH0
  have b37 : ∀ (σ : Sig) (H : Heap) (locs : List Loc) (ls : Array Slot), PS SM Γ ad A s σ H locs → lv_has ls 3 [(0, .ref (ad 0 0))] → f12_numberHere_b37 σ = some (r, σ1) → W p l e (rmz 1 21) s m args below meth c H locs 0 0 (QI SM Γ ad A below args s r σ1) (F0 m 37 ls []) := by
    intro σ H locs ls hP hl hF
    rw [f12_numberHere_b37] at hF
    refine r_aload_n cx dX12_numberHere_37 (lv_at hl 0 rfl) ?_
    obtain ⟨v1, hc, hF⟩ := bnd_some hF
    refine r_callVi cx hP (As := []) (w12_good l Γ ad A σ v1 hc) mw12_231 ⟨Nat.le_of_ble_eq_true rfl, Nat.le_of_ble_eq_true rfl⟩ (dMr (by decide)) rfl rfl rfl (Nat.le_of_ble_eq_true rfl) hl.1 ⟨Nat.zero_le _, Nat.zero_le _⟩ dX12_numberHere_38 (fun H locs hP => ?_)
    refine r_if_eq cx 51 dX12_numberHere_41 (by decide) hF (fun hF => ?_) (fun hF => ?_)
    · refine r_iconst cx 0 dX12_numberHere_51 (by decide) ?_
      exact r_iret cx hP hr hk dX12_numberHere_52 hF
    · refine r_aload_n cx dX12_numberHere_44 (lv_at hl 0 rfl) ?_
      refine gf12_213 cx hP dX12_numberHere_45 hF (fun v2 hF => ?_)
      refine r_goto cx 52 dX12_numberHere_48 (by decide) ?_
      exact r_iret cx hP hr hk dX12_numberHere_52 hF
  have b32 : ∀ (σ : Sig) (H : Heap) (locs : List Loc) (ls : Array Slot), PS SM Γ ad A s σ H locs → lv_has ls 3 [(0, .ref (ad 0 0))] → f12_numberHere_b32 σ = some (r, σ1) → W p l e (rmz 1 21) s m args below meth c H locs 0 0 (QI SM Γ ad A below args s r σ1) (F0 m 32 ls []) := by
    intro σ H locs ls hP hl hF
    rw [f12_numberHere_b32] at hF
    refine r_aload_n cx dX12_numberHere_32 (lv_at hl 0 rfl) ?_
    refine r_iconst cx 2 dX12_numberHere_33 (by decide) ?_
    obtain ⟨s3, hc, hF⟩ := bnd_some hF
    refine r_callVv cx hP (As := [.int 2]) (w12_fail l Γ ad A 2 σ s3 hc) mw12_237 ⟨Nat.le_of_ble_eq_true rfl, Nat.le_of_ble_eq_true rfl⟩ (dMr (by decide)) rfl rfl rfl (Nat.le_of_ble_eq_true rfl) hl.1 ⟨Nat.zero_le _, Nat.zero_le _⟩ dX12_numberHere_34 (fun H locs hP => ?_)
    exact b37 s3 _ _ _ hP (lv_sub hl [0] rfl) hF
  refine r_aload_n cx dX12_numberHere_0 (lv_at hl 0 rfl) ?_
  refine gf12_204 cx hP dX12_numberHere_1 hF (fun v4 hF => ?_)
  refine r_iconst cx 2 dX12_numberHere_4 (by decide) ?_
  refine r_icmp_eq cx 16 dX12_numberHere_5 (by decide) hF (fun hF => ?_) (fun hF => ?_)
  · refine r_aload_n cx dX12_numberHere_16 (lv_at hl 0 rfl) ?_
    refine gf12_213 cx hP dX12_numberHere_17 hF (fun v5 hF => ?_)
    refine r_iload_n cx dX12_numberHere_20 (lv_at hl 1 rfl) ?_
    refine r_icmp_lt cx 32 dX12_numberHere_21 (by decide) hF (fun hF => ?_) (fun hF => ?_)
    · exact b32 σ _ _ _ hP (lv_sub hl [0] rfl) hF
    · refine r_aload_n cx dX12_numberHere_24 (lv_at hl 0 rfl) ?_
      refine gf12_213 cx hP dX12_numberHere_25 hF (fun v6 hF => ?_)
      refine r_iload_n cx dX12_numberHere_28 (lv_at hl 2 rfl) ?_
      refine r_icmp_le cx 37 dX12_numberHere_29 (by decide) hF (fun hF => ?_) (fun hF => ?_)
      · exact b37 σ _ _ _ hP (lv_sub hl [0] rfl) hF
      · exact b32 σ _ _ _ hP (lv_sub hl [0] rfl) hF
  · refine r_aload_n cx dX12_numberHere_8 (lv_at hl 0 rfl) ?_
    refine r_iconst cx 1 dX12_numberHere_9 (by decide) ?_
    obtain ⟨s7, hc, hF⟩ := bnd_some hF
    refine r_callVv cx hP (As := [.int 1]) (w12_fail l Γ ad A 1 σ s7 hc) mw12_237 ⟨Nat.le_of_ble_eq_true rfl, Nat.le_of_ble_eq_true rfl⟩ (dMr (by decide)) rfl rfl rfl (Nat.le_of_ble_eq_true rfl) hl.1 ⟨Nat.zero_le _, Nat.zero_le _⟩ dX12_numberHere_10 (fun H locs hP => ?_)
    refine r_goto cx 37 dX12_numberHere_13 (by decide) ?_
    exact b37 s7 _ _ _ hP (lv_sub hl [0] rfl) hF
set_option maxHeartbeats 4000000 in
set_option maxRecDepth 100000 in
theorem w12_number (l : Launch) (Γ : Wc) (ad : Nat → Nat → Nat) (A : Nat → Prop) (p1 : Int32) (p2 : Int32) (σ : Sig) (r : Int32) (σ1 : Sig) (hF : f12_number p1 p2 σ = some (r, σ1)) : MI l SM Γ ad A yX12_number cX12_number 4 (some .int) 3 61 [.ref (ad 0 0), .int p1, .int p2] σ r σ1 := by
  refine MI.of (by decide) (Nat.le_of_ble_eq_true rfl) ?_
  intro p e s m args below meth c ls cx hr hk hP hl
  have hl : lv_has ls 4 [(0, .ref (ad 0 0)), (1, .int p1), (2, .int p2)] := hl
  rw [f12_number] at hF
  refine r_aload_n cx dX12_number_0 (lv_at hl 0 rfl) ?_
  refine r_iload_n cx dX12_number_1 (lv_at hl 1 rfl) ?_
  refine r_iload_n cx dX12_number_2 (lv_at hl 2 rfl) ?_
  obtain ⟨v1, s2, hc, hF⟩ := bns_some hF
  refine r_callVi cx hP (As := [.int p1, .int p2]) (w12_numberHere l Γ ad A p1 p2 σ v1 s2 hc) mw12_240 ⟨Nat.le_of_ble_eq_true rfl, Nat.le_of_ble_eq_true rfl⟩ (dMr (by decide)) rfl rfl rfl (Nat.le_of_ble_eq_true rfl) hl.1 ⟨Nat.zero_le _, Nat.zero_le _⟩ dX12_number_3 (fun H locs hP => ?_)
  refine r_istore_n cx [(3, .int v1), (0, .ref (ad 0 0)), (1, .int p1), (2, .int p2)] dX12_number_6 hl (by decide) rfl (fun ls hl => ?_)
  refine r_aload_n cx dX12_number_7 (lv_at hl 1 rfl) ?_
  obtain ⟨s3, hc, hF⟩ := bnd_some hF
  refine r_callVv cx hP (As := []) (w12_advance l Γ ad A s2 s3 hc) mw12_243 ⟨Nat.le_of_ble_eq_true rfl, Nat.le_of_ble_eq_true rfl⟩ (dMr (by decide)) rfl rfl rfl (Nat.le_of_ble_eq_true rfl) hl.1 ⟨Nat.zero_le _, Nat.zero_le _⟩ dX12_number_8 (fun H locs hP => ?_)
  refine r_aload_n cx dX12_number_11 (lv_at hl 1 rfl) ?_
  obtain ⟨v4, hc, hF⟩ := bnd_some hF
  refine r_callVi cx hP (As := []) (w12_good l Γ ad A s3 v4 hc) mw12_231 ⟨Nat.le_of_ble_eq_true rfl, Nat.le_of_ble_eq_true rfl⟩ (dMr (by decide)) rfl rfl rfl (Nat.le_of_ble_eq_true rfl) hl.1 ⟨Nat.zero_le _, Nat.zero_le _⟩ dX12_number_12 (fun H locs hP => ?_)
  refine r_if_eq cx 22 dX12_number_15 (by decide) hF (fun hF => ?_) (fun hF => ?_)
  · refine r_iconst cx 0 dX12_number_22 (by decide) ?_
    exact r_iret cx hP hr hk dX12_number_23 hF
  · refine r_iload_n cx dX12_number_18 (lv_at hl 0 rfl) ?_
    refine r_goto cx 23 dX12_number_19 (by decide) ?_
    exact r_iret cx hP hr hk dX12_number_23 hF
set_option maxHeartbeats 4000000 in
set_option maxRecDepth 100000 in
theorem w12_aPass (l : Launch) (Γ : Wc) (ad : Nat → Nat → Nat) (A : Nat → Prop)  (σ : Sig) (r : Int32) (σ1 : Sig) (hF : f12_aPass  σ = some (r, σ1)) : MI l SM Γ ad A yX12_aPass cX12_aPass 1 (some .int) 4 84 [.ref (ad 0 0)] σ r σ1 := by
  refine MI.of (by decide) (Nat.le_of_ble_eq_true rfl) ?_
  intro p e s m args below meth c ls cx hr hk hP hl
  have hl : lv_has ls 1 [(0, .ref (ad 0 0))] := hl
  rw [f12_aPass] at hF
  refine r_aload_n cx dX12_aPass_0 (lv_at hl 0 rfl) ?_
  refine r_iconst cx 0 dX12_aPass_1 (by decide) ?_
  refine r_aload_n cx dX12_aPass_2 (lv_at hl 0 rfl) ?_
  refine gf12_9 cx hP dX12_aPass_3 ?_
  refine r_iconst cx 2 dX12_aPass_6 (by decide) ?_
  refine r_iald cx hP (dMr (by decide)) rfl dX12_aPass_7 hF (fun v1 hF => ?_)
  refine r_iconst cx 1 dX12_aPass_8 (by decide) ?_
  refine r_isub cx dX12_aPass_9 hF (fun v2 hF => ?_)
  obtain ⟨v3, s4, hc, hF⟩ := bns_some hF
  refine r_callVi cx hP (As := [.int 0, .int v2]) (w12_number l Γ ad A 0 v2 σ v3 s4 hc) mw12_246 ⟨Nat.le_of_ble_eq_true rfl, Nat.le_of_ble_eq_true rfl⟩ (dMr (by decide)) rfl rfl rfl (Nat.le_of_ble_eq_true rfl) hl.1 ⟨Nat.zero_le _, Nat.zero_le _⟩ dX12_aPass_10 (fun H locs hP => ?_)
  exact r_iret cx hP hr hk dX12_aPass_13 hF
set_option maxHeartbeats 4000000 in
set_option maxRecDepth 100000 in
theorem w12_aCard (l : Launch) (Γ : Wc) (ad : Nat → Nat → Nat) (A : Nat → Prop)  (σ : Sig) (r : Int32) (σ1 : Sig) (hF : f12_aCard  σ = some (r, σ1)) : MI l SM Γ ad A yX12_aCard cX12_aCard 1 (some .int) 4 84 [.ref (ad 0 0)] σ r σ1 := by
  refine MI.of (by decide) (Nat.le_of_ble_eq_true rfl) ?_
  intro p e s m args below meth c ls cx hr hk hP hl
  have hl : lv_has ls 1 [(0, .ref (ad 0 0))] := hl
  rw [f12_aCard] at hF
  refine r_aload_n cx dX12_aCard_0 (lv_at hl 0 rfl) ?_
  refine r_iconst cx 0 dX12_aCard_1 (by decide) ?_
  refine r_aload_n cx dX12_aCard_2 (lv_at hl 0 rfl) ?_
  refine gf12_9 cx hP dX12_aCard_3 ?_
  refine r_iconst cx 3 dX12_aCard_6 (by decide) ?_
  refine r_iald cx hP (dMr (by decide)) rfl dX12_aCard_7 hF (fun v1 hF => ?_)
  refine r_iconst cx 1 dX12_aCard_8 (by decide) ?_
  refine r_isub cx dX12_aCard_9 hF (fun v2 hF => ?_)
  obtain ⟨v3, s4, hc, hF⟩ := bns_some hF
  refine r_callVi cx hP (As := [.int 0, .int v2]) (w12_number l Γ ad A 0 v2 σ v3 s4 hc) mw12_246 ⟨Nat.le_of_ble_eq_true rfl, Nat.le_of_ble_eq_true rfl⟩ (dMr (by decide)) rfl rfl rfl (Nat.le_of_ble_eq_true rfl) hl.1 ⟨Nat.zero_le _, Nat.zero_le _⟩ dX12_aCard_10 (fun H locs hP => ?_)
  exact r_iret cx hP hr hk dX12_aCard_13 hF
set_option maxHeartbeats 4000000 in
set_option maxRecDepth 100000 in
theorem w12_ends (l : Launch) (Γ : Wc) (ad : Nat → Nat → Nat) (A : Nat → Prop) (p1 : Int32) (σ : Sig) (r : Int32) (σ1 : Sig) (hF : f12_ends p1 σ = some (r, σ1)) : MI l SM Γ ad A yX12_ends cX12_ends 2 (some .boolean) 1 21 [.ref (ad 0 0), .int p1] σ r σ1 := by
  refine MI.of (by decide) (Nat.le_of_ble_eq_true rfl) ?_
  intro p e s m args below meth c ls cx hr hk hP hl
  have hl : lv_has ls 2 [(0, .ref (ad 0 0)), (1, .int p1)] := hl
  rw [f12_ends] at hF
  generalize hH0 : s.heap = H0 at hP ⊢
  generalize ([] : List Loc) = locs0 at hP ⊢
  clear hH0
  have b22 : ∀ (σ : Sig) (H : Heap) (locs : List Loc) (ls : Array Slot), PS SM Γ ad A s σ H locs → lv_has ls 2 [(0, .ref (ad 0 0))] → f12_ends_b22 σ = some (r, σ1) → W p l e (rmz 1 21) s m args below meth c H locs 0 0 (QI SM Γ ad A below args s r σ1) (F0 m 22 ls []) := by
    intro σ H locs ls hP hl hF
    rw [f12_ends_b22] at hF
    refine r_aload_n cx dX12_ends_22 (lv_at hl 0 rfl) ?_
    obtain ⟨v1, hc, hF⟩ := bnd_some hF
    refine r_callVi cx hP (As := []) (w12_good l Γ ad A σ v1 hc) mw12_231 ⟨Nat.le_of_ble_eq_true rfl, Nat.le_of_ble_eq_true rfl⟩ (dMr (by decide)) rfl rfl rfl (Nat.le_of_ble_eq_true rfl) hl.1 ⟨Nat.zero_le _, Nat.zero_le _⟩ dX12_ends_23 (fun H locs hP => ?_)
    exact r_zret cx hP hr hk (nar_gz (gz_some hF).1) dX12_ends_26 (gz_some hF).2
  have b13 : ∀ (x1 : Int32) (σ : Sig) (H : Heap) (locs : List Loc) (ls : Array Slot), PS SM Γ ad A s σ H locs → lv_has ls 2 [(0, .ref (ad 0 0)), (1, .int x1)] → f12_ends_b13 x1 σ = some (r, σ1) → W p l e (rmz 1 21) s m args below meth c H locs 0 0 (QI SM Γ ad A below args s r σ1) (F0 m 13 ls []) := by
    intro x1 σ H locs ls hP hl hF
    rw [f12_ends_b13] at hF
    refine r_iload_n cx dX12_ends_13 (lv_at hl 1 rfl) ?_
    refine r_if_ne cx 22 dX12_ends_14 (by decide) hF (fun hF => ?_) (fun hF => ?_)
    · exact b22 σ _ _ _ hP (lv_sub hl [0] rfl) hF
    · refine r_aload_n cx dX12_ends_17 (lv_at hl 0 rfl) ?_
      refine r_iconst cx 4 dX12_ends_18 (by decide) ?_
      obtain ⟨s2, hc, hF⟩ := bnd_some hF
      refine r_callVv cx hP (As := [.int 4]) (w12_fail l Γ ad A 4 σ s2 hc) mw12_237 ⟨Nat.le_of_ble_eq_true rfl, Nat.le_of_ble_eq_true rfl⟩ (dMr (by decide)) rfl rfl rfl (Nat.le_of_ble_eq_true rfl) hl.1 ⟨Nat.zero_le _, Nat.zero_le _⟩ dX12_ends_19 (fun H locs hP => ?_)
      exact b22 s2 _ _ _ hP (lv_sub hl [0] rfl) hF
  refine r_aload_n cx dX12_ends_0 (lv_at hl 0 rfl) ?_
  refine gf12_204 cx hP dX12_ends_1 hF (fun v3 hF => ?_)
  refine r_iconst cx 1 dX12_ends_4 (by decide) ?_
  refine r_icmp_eq cx 13 dX12_ends_5 (by decide) hF (fun hF => ?_) (fun hF => ?_)
  · exact b13 p1 σ _ _ _ hP (lv_sub hl [0, 1] rfl) hF
  · refine r_aload_n cx dX12_ends_8 (lv_at hl 0 rfl) ?_
    refine r_iconst cx 1 dX12_ends_9 (by decide) ?_
    obtain ⟨s4, hc, hF⟩ := bnd_some hF
    refine r_callVv cx hP (As := [.int 1]) (w12_fail l Γ ad A 1 σ s4 hc) mw12_237 ⟨Nat.le_of_ble_eq_true rfl, Nat.le_of_ble_eq_true rfl⟩ (dMr (by decide)) rfl rfl rfl (Nat.le_of_ble_eq_true rfl) hl.1 ⟨Nat.zero_le _, Nat.zero_le _⟩ dX12_ends_10 (fun H locs hP => ?_)
    exact b13 p1 s4 _ _ _ hP (lv_sub hl [0, 1] rfl) hF
set_option maxHeartbeats 4000000 in
set_option maxRecDepth 100000 in
theorem w12_scents (l : Launch) (Γ : Wc) (ad : Nat → Nat → Nat) (A : Nat → Prop)  (σ : Sig) (σ1 : Sig) (hF : f12_scents  σ = some σ1) : MV l SM Γ ad A yX12_scents cX12_scents 2 3 61 [.ref (ad 0 0)] σ σ1 := by
  refine MV.of (by decide) (Nat.le_of_ble_eq_true rfl) ?_
  intro p e s m args below meth c ls cx hr hk hP hl
  have hl : lv_has ls 2 [(0, .ref (ad 0 0))] := hl
  rw [f12_scents] at hF
  generalize hH0 : s.heap = H0 at hP ⊢
  generalize ([] : List Loc) = locs0 at hP ⊢
  clear hH0
  have b65 : ∀ (σ : Sig) (H : Heap) (locs : List Loc) (ls : Array Slot), PS SM Γ ad A s σ H locs → lv_has ls 2 [(0, .ref (ad 0 0))] → f12_scents_b65 σ = some σ1 → W p l e (rmz 3 61) s m args below meth c H locs 0 0 (QV SM Γ ad A below args s σ1) (F0 m 65 ls []) := by
    intro σ H locs ls hP hl hF
    rw [f12_scents_b65] at hF
    refine r_aload_n cx dX12_scents_65 (lv_at hl 0 rfl) ?_
    refine r_iconst cx 1 dX12_scents_66 (by decide) ?_
    obtain ⟨v1, s2, hc, hF⟩ := bns_some hF
    refine r_callVi cx hP (As := [.int 1]) (w12_ends l Γ ad A 1 σ v1 s2 hc) mw12_249 ⟨Nat.le_of_ble_eq_true rfl, Nat.le_of_ble_eq_true rfl⟩ (dMr (by decide)) rfl rfl rfl (Nat.le_of_ble_eq_true rfl) hl.1 ⟨Nat.zero_le _, Nat.zero_le _⟩ dX12_scents_67 (fun H locs hP => ?_)
    refine r_istore_n cx [(1, .int v1), (0, .ref (ad 0 0))] dX12_scents_70 hl (by decide) rfl (fun ls hl => ?_)
    exact r_vret cx hP hr hk dX12_scents_71 hF
  have b46 : ∀ (rc : Sig → Option (Sig)) (ih : ∀ (σ : Sig) (H : Heap) (locs : List Loc) (ls : Array Slot), PS SM Γ ad A s σ H locs → lv_has ls 2 [(0, .ref (ad 0 0))] → rc σ = some σ1 → W p l e (rmz 3 61) s m args below meth c H locs 0 0 (QV SM Γ ad A below args s σ1) (F0 m 4 ls [])) (σ : Sig) (H : Heap) (locs : List Loc) (ls : Array Slot), PS SM Γ ad A s σ H locs → lv_has ls 2 [(0, .ref (ad 0 0))] → f12_scents_b46 rc σ = some σ1 → W p l e (rmz 3 61) s m args below meth c H locs 0 0 (QV SM Γ ad A below args s σ1) (F0 m 46 ls []) := by
    intro rc ih σ H locs ls hP hl hF
    rw [f12_scents_b46] at hF
    refine r_aload_n cx dX12_scents_46 (lv_at hl 0 rfl) ?_
    obtain ⟨s3, hc, hF⟩ := bnd_some hF
    refine r_callVv cx hP (As := []) (w12_advance l Γ ad A σ s3 hc) mw12_243 ⟨Nat.le_of_ble_eq_true rfl, Nat.le_of_ble_eq_true rfl⟩ (dMr (by decide)) rfl rfl rfl (Nat.le_of_ble_eq_true rfl) hl.1 ⟨Nat.zero_le _, Nat.zero_le _⟩ dX12_scents_47 (fun H locs hP => ?_)
    refine r_aload_n cx dX12_scents_50 (lv_at hl 0 rfl) ?_
    obtain ⟨v4, hc, hF⟩ := bnd_some hF
    refine r_callVi cx hP (As := []) (w12_good l Γ ad A s3 v4 hc) mw12_231 ⟨Nat.le_of_ble_eq_true rfl, Nat.le_of_ble_eq_true rfl⟩ (dMr (by decide)) rfl rfl rfl (Nat.le_of_ble_eq_true rfl) hl.1 ⟨Nat.zero_le _, Nat.zero_le _⟩ dX12_scents_51 (fun H locs hP => ?_)
    refine r_if_eq cx 65 dX12_scents_54 (by decide) hF (fun hF => ?_) (fun hF => ?_)
    · exact b65 s3 _ _ _ hP (lv_sub hl [0] rfl) hF
    · refine r_aload_n cx dX12_scents_57 (lv_at hl 0 rfl) ?_
      refine gf12_204 cx hP dX12_scents_58 hF (fun v5 hF => ?_)
      refine r_iconst cx 2 dX12_scents_61 (by decide) ?_
      refine r_icmp_eq cx 4 dX12_scents_62 (by decide) hF (fun hF => ?_) (fun hF => ?_)
      · exact ih s3 _ _ _ hP (lv_sub hl [0] rfl) hF
      · exact b65 s3 _ _ _ hP (lv_sub hl [0] rfl) hF
  have b34 : ∀ (rc : Sig → Option (Sig)) (ih : ∀ (σ : Sig) (H : Heap) (locs : List Loc) (ls : Array Slot), PS SM Γ ad A s σ H locs → lv_has ls 2 [(0, .ref (ad 0 0))] → rc σ = some σ1 → W p l e (rmz 3 61) s m args below meth c H locs 0 0 (QV SM Γ ad A below args s σ1) (F0 m 4 ls [])) (x1 : Int32) (σ : Sig) (H : Heap) (locs : List Loc) (ls : Array Slot), PS SM Γ ad A s σ H locs → lv_has ls 2 [(0, .ref (ad 0 0)), (1, .int x1)] → f12_scents_b34 rc x1 σ = some σ1 → W p l e (rmz 3 61) s m args below meth c H locs 0 0 (QV SM Γ ad A below args s σ1) (F0 m 34 ls []) := by
    intro rc ih x1 σ H locs ls hP hl hF
    rw [f12_scents_b34] at hF
    refine r_aload_n cx dX12_scents_34 (lv_at hl 0 rfl) ?_
    obtain ⟨v6, hc, hF⟩ := bnd_some hF
    refine r_callVi cx hP (As := []) (w12_good l Γ ad A σ v6 hc) mw12_231 ⟨Nat.le_of_ble_eq_true rfl, Nat.le_of_ble_eq_true rfl⟩ (dMr (by decide)) rfl rfl rfl (Nat.le_of_ble_eq_true rfl) hl.1 ⟨Nat.zero_le _, Nat.zero_le _⟩ dX12_scents_35 (fun H locs hP => ?_)
    refine r_if_eq cx 46 dX12_scents_38 (by decide) hF (fun hF => ?_) (fun hF => ?_)
    · exact b46 rc ih σ _ _ _ hP (lv_sub hl [0] rfl) hF
    · refine r_aload_n cx dX12_scents_41 (lv_at hl 0 rfl) ?_
      refine r_iload_n cx dX12_scents_42 (lv_at hl 1 rfl) ?_
      obtain ⟨s7, hc, hF⟩ := bnd_some hF
      refine r_callVv cx hP (As := [.int x1]) (w12_addScentAt l Γ ad A x1 σ s7 hc) mw12_38 ⟨Nat.le_of_ble_eq_true rfl, Nat.le_of_ble_eq_true rfl⟩ (dMr (by decide)) rfl rfl rfl (Nat.le_of_ble_eq_true rfl) hl.1 ⟨Nat.zero_le _, Nat.zero_le _⟩ dX12_scents_43 (fun H locs hP => ?_)
      exact b46 rc ih s7 _ _ _ hP (lv_sub hl [0] rfl) hF
  have b4 : ∀ (fu : Nat) (σ : Sig) (H : Heap) (locs : List Loc) (ls : Array Slot), PS SM Γ ad A s σ H locs → lv_has ls 2 [(0, .ref (ad 0 0))] → f12_scents_b4 fu σ = some σ1 → W p l e (rmz 3 61) s m args below meth c H locs 0 0 (QV SM Γ ad A below args s σ1) (F0 m 4 ls []) := by
    intro fu
    induction fu with
    | zero => intro σ H locs ls hP hl hF; exact nofu hF
    | succ fu ih =>
      intro σ H locs ls hP hl hF
      rw [f12_scents_b4] at hF
      refine r_aload_n cx dX12_scents_4 (lv_at hl 0 rfl) ?_
      refine r_iconst cx 1 dX12_scents_5 (by decide) ?_
      refine r_bipush cx 99 dX12_scents_6 (by decide) ?_
      obtain ⟨v8, s9, hc, hF⟩ := bns_some hF
      refine r_callVi cx hP (As := [.int 1, .int 99]) (w12_numberHere l Γ ad A 1 99 σ v8 s9 hc) mw12_240 ⟨Nat.le_of_ble_eq_true rfl, Nat.le_of_ble_eq_true rfl⟩ (dMr (by decide)) rfl rfl rfl (Nat.le_of_ble_eq_true rfl) hl.1 ⟨Nat.zero_le _, Nat.zero_le _⟩ dX12_scents_8 (fun H locs hP => ?_)
      refine r_istore_n cx [(1, .int v8), (0, .ref (ad 0 0))] dX12_scents_11 hl (by decide) rfl (fun ls hl => ?_)
      refine r_aload_n cx dX12_scents_12 (lv_at hl 1 rfl) ?_
      obtain ⟨v10, hc, hF⟩ := bnd_some hF
      refine r_callVi cx hP (As := []) (w12_good l Γ ad A s9 v10 hc) mw12_231 ⟨Nat.le_of_ble_eq_true rfl, Nat.le_of_ble_eq_true rfl⟩ (dMr (by decide)) rfl rfl rfl (Nat.le_of_ble_eq_true rfl) hl.1 ⟨Nat.zero_le _, Nat.zero_le _⟩ dX12_scents_13 (fun H locs hP => ?_)
      refine r_if_eq cx 34 dX12_scents_16 (by decide) hF (fun hF => ?_) (fun hF => ?_)
      · exact b34 (f12_scents_b4 fu) ih v8 s9 _ _ _ hP (lv_sub hl [1, 0] rfl) hF
      · refine r_aload_n cx dX12_scents_19 (lv_at hl 1 rfl) ?_
        refine gf12_9 cx hP dX12_scents_20 ?_
        refine r_iconst cx 0 dX12_scents_23 (by decide) ?_
        refine r_iald cx hP (dMr (by decide)) rfl dX12_scents_24 hF (fun v11 hF => ?_)
        refine r_iconst cx 5 dX12_scents_25 (by decide) ?_
        refine r_icmp_ne cx 34 dX12_scents_26 (by decide) hF (fun hF => ?_) (fun hF => ?_)
        · exact b34 (f12_scents_b4 fu) ih v8 s9 _ _ _ hP (lv_sub hl [1, 0] rfl) hF
        · refine r_aload_n cx dX12_scents_29 (lv_at hl 1 rfl) ?_
          refine r_iconst cx 3 dX12_scents_30 (by decide) ?_
          obtain ⟨s12, hc, hF⟩ := bnd_some hF
          refine r_callVv cx hP (As := [.int 3]) (w12_fail l Γ ad A 3 s9 s12 hc) mw12_237 ⟨Nat.le_of_ble_eq_true rfl, Nat.le_of_ble_eq_true rfl⟩ (dMr (by decide)) rfl rfl rfl (Nat.le_of_ble_eq_true rfl) hl.1 ⟨Nat.zero_le _, Nat.zero_le _⟩ dX12_scents_31 (fun H locs hP => ?_)
          exact b34 (f12_scents_b4 fu) ih v8 s12 _ _ _ hP (lv_sub hl [1, 0] rfl) hF
  refine r_aload_n cx dX12_scents_0 (lv_at hl 0 rfl) ?_
  obtain ⟨s13, hc, hF⟩ := bnd_some hF
  refine r_callVv cx hP (As := []) (w12_empty l Γ ad A σ s13 hc) mw12_35 ⟨Nat.le_of_ble_eq_true rfl, Nat.le_of_ble_eq_true rfl⟩ (dMr (by decide)) rfl rfl rfl (Nat.le_of_ble_eq_true rfl) hl.1 ⟨Nat.zero_le _, Nat.zero_le _⟩ dX12_scents_1 (fun H locs hP => ?_)
  exact b4 FU s13 _ _ _ hP (lv_sub hl [0] rfl) hF
set_option maxHeartbeats 4000000 in
set_option maxRecDepth 100000 in
theorem w12_bedCommand (l : Launch) (Γ : Wc) (ad : Nat → Nat → Nat) (A : Nat → Prop)  (σ : Sig) (σ1 : Sig) (hF : f12_bedCommand  σ = some σ1) : MV l SM Γ ad A yX12_bedCommand cX12_bedCommand 6 4 84 [.ref (ad 0 0)] σ σ1 := by
  refine MV.of (by decide) (Nat.le_of_ble_eq_true rfl) ?_
  intro p e s m args below meth c ls cx hr hk hP hl
  have hl : lv_has ls 6 [(0, .ref (ad 0 0))] := hl
  rw [f12_bedCommand] at hF
  generalize hH0 : s.heap = H0 at hP ⊢
  generalize ([] : List Loc) = locs0 at hP ⊢
  clear hH0
  have b56 : ∀ (x1 : Int32) (x2 : Int32) (x3 : Int32) (x4 : Int32) (t1 : Int32) (σ : Sig) (H : Heap) (locs : List Loc) (ls : Array Slot), PS SM Γ ad A s σ H locs → lv_has ls 6 [(0, .ref (ad 0 0)), (1, .int x1), (2, .int x2), (3, .int x3), (4, .int x4)] → f12_bedCommand_b56 x1 x2 x3 x4 t1 σ = some σ1 → W p l e (rmz 4 84) s m args below meth c H locs 0 0 (QV SM Γ ad A below args s σ1) (F0 m 56 ls [.int t1, .ref (ad 0 0)]) := by
    intro x1 x2 x3 x4 t1 σ H locs ls hP hl hF
    rw [f12_bedCommand_b56] at hF
    obtain ⟨v1, s2, hc, hF⟩ := bns_some hF
    refine r_callVi cx hP (As := [.int t1]) (w12_ends l Γ ad A t1 σ v1 s2 hc) mw12_249 ⟨Nat.le_of_ble_eq_true rfl, Nat.le_of_ble_eq_true rfl⟩ (dMr (by decide)) rfl rfl rfl (Nat.le_of_ble_eq_true rfl) hl.1 ⟨Nat.zero_le _, Nat.zero_le _⟩ dX12_bedCommand_56 (fun H locs hP => ?_)
    refine r_if_eq cx 73 dX12_bedCommand_59 (by decide) hF (fun hF => ?_) (fun hF => ?_)
    · exact r_vret cx hP hr hk dX12_bedCommand_73 hF
    · refine r_aload_n cx dX12_bedCommand_62 (lv_at hl 0 rfl) ?_
      refine r_iload_n cx dX12_bedCommand_63 (lv_at hl 1 rfl) ?_
      refine r_iload_n cx dX12_bedCommand_64 (lv_at hl 2 rfl) ?_
      refine r_iload_n cx dX12_bedCommand_65 (lv_at hl 3 rfl) ?_
      refine r_iload cx dX12_bedCommand_66 (lv_at hl 4 rfl) ?_
      obtain ⟨v3, s4, hc, hF⟩ := bns_some hF
      refine r_callVi cx hP (As := [.int x1, .int x2, .int x3, .int x4]) (w12_makeBed l Γ ad A x1 x2 x3 x4 s2 v3 s4 hc) mw12_42 ⟨Nat.le_of_ble_eq_true rfl, Nat.le_of_ble_eq_true rfl⟩ (dMr (by decide)) rfl rfl rfl (Nat.le_of_ble_eq_true rfl) hl.1 ⟨Nat.zero_le _, Nat.zero_le _⟩ dX12_bedCommand_68 (fun H locs hP => ?_)
      refine r_istore cx [(5, .int v3), (0, .ref (ad 0 0)), (1, .int x1), (2, .int x2), (3, .int x3), (4, .int x4)] dX12_bedCommand_71 hl (by decide) rfl (fun ls hl => ?_)
      exact r_vret cx hP hr hk dX12_bedCommand_73 hF
  refine r_aload_n cx dX12_bedCommand_0 (lv_at hl 0 rfl) ?_
  refine r_iconst cx 0 dX12_bedCommand_1 (by decide) ?_
  refine r_aload_n cx dX12_bedCommand_2 (lv_at hl 0 rfl) ?_
  refine gf12_9 cx hP dX12_bedCommand_3 ?_
  refine r_iconst cx 0 dX12_bedCommand_6 (by decide) ?_
  refine r_iald cx hP (dMr (by decide)) rfl dX12_bedCommand_7 hF (fun v5 hF => ?_)
  refine r_iconst cx 1 dX12_bedCommand_8 (by decide) ?_
  refine r_isub cx dX12_bedCommand_9 hF (fun v6 hF => ?_)
  obtain ⟨v7, s8, hc, hF⟩ := bns_some hF
  refine r_callVi cx hP (As := [.int 0, .int v6]) (w12_number l Γ ad A 0 v6 σ v7 s8 hc) mw12_246 ⟨Nat.le_of_ble_eq_true rfl, Nat.le_of_ble_eq_true rfl⟩ (dMr (by decide)) rfl rfl rfl (Nat.le_of_ble_eq_true rfl) hl.1 ⟨Nat.zero_le _, Nat.zero_le _⟩ dX12_bedCommand_10 (fun H locs hP => ?_)
  refine r_istore_n cx [(1, .int v7), (0, .ref (ad 0 0))] dX12_bedCommand_13 hl (by decide) rfl (fun ls hl => ?_)
  refine r_aload_n cx dX12_bedCommand_14 (lv_at hl 1 rfl) ?_
  refine r_iconst cx 1 dX12_bedCommand_15 (by decide) ?_
  refine r_bipush cx 20 dX12_bedCommand_16 (by decide) ?_
  obtain ⟨v9, s10, hc, hF⟩ := bns_some hF
  refine r_callVi cx hP (As := [.int 1, .int 20]) (w12_number l Γ ad A 1 20 s8 v9 s10 hc) mw12_246 ⟨Nat.le_of_ble_eq_true rfl, Nat.le_of_ble_eq_true rfl⟩ (dMr (by decide)) rfl rfl rfl (Nat.le_of_ble_eq_true rfl) hl.1 ⟨Nat.zero_le _, Nat.zero_le _⟩ dX12_bedCommand_18 (fun H locs hP => ?_)
  refine r_istore_n cx [(2, .int v9), (1, .int v7), (0, .ref (ad 0 0))] dX12_bedCommand_21 hl (by decide) rfl (fun ls hl => ?_)
  refine r_aload_n cx dX12_bedCommand_22 (lv_at hl 2 rfl) ?_
  refine r_iconst cx 0 dX12_bedCommand_23 (by decide) ?_
  refine r_bipush cx 99 dX12_bedCommand_24 (by decide) ?_
  obtain ⟨v11, s12, hc, hF⟩ := bns_some hF
  refine r_callVi cx hP (As := [.int 0, .int 99]) (w12_number l Γ ad A 0 99 s10 v11 s12 hc) mw12_246 ⟨Nat.le_of_ble_eq_true rfl, Nat.le_of_ble_eq_true rfl⟩ (dMr (by decide)) rfl rfl rfl (Nat.le_of_ble_eq_true rfl) hl.1 ⟨Nat.zero_le _, Nat.zero_le _⟩ dX12_bedCommand_26 (fun H locs hP => ?_)
  refine r_istore_n cx [(3, .int v11), (2, .int v9), (1, .int v7), (0, .ref (ad 0 0))] dX12_bedCommand_29 hl (by decide) rfl (fun ls hl => ?_)
  refine r_aload_n cx dX12_bedCommand_30 (lv_at hl 3 rfl) ?_
  refine r_iload_n cx dX12_bedCommand_31 (lv_at hl 0 rfl) ?_
  refine r_bipush cx 99 dX12_bedCommand_32 (by decide) ?_
  obtain ⟨v13, s14, hc, hF⟩ := bns_some hF
  refine r_callVi cx hP (As := [.int v11, .int 99]) (w12_number l Γ ad A v11 99 s12 v13 s14 hc) mw12_246 ⟨Nat.le_of_ble_eq_true rfl, Nat.le_of_ble_eq_true rfl⟩ (dMr (by decide)) rfl rfl rfl (Nat.le_of_ble_eq_true rfl) hl.1 ⟨Nat.zero_le _, Nat.zero_le _⟩ dX12_bedCommand_34 (fun H locs hP => ?_)
  refine r_istore cx [(4, .int v13), (3, .int v11), (2, .int v9), (1, .int v7), (0, .ref (ad 0 0))] dX12_bedCommand_37 hl (by decide) rfl (fun ls hl => ?_)
  refine r_aload_n cx dX12_bedCommand_39 (lv_at hl 4 rfl) ?_
  refine r_aload_n cx dX12_bedCommand_40 (lv_at hl 4 rfl) ?_
  refine gf12_9 cx hP dX12_bedCommand_41 ?_
  refine r_iconst cx 1 dX12_bedCommand_44 (by decide) ?_
  refine r_iald cx hP (dMr (by decide)) rfl dX12_bedCommand_45 hF (fun v15 hF => ?_)
  refine r_bipush cx 8 dX12_bedCommand_46 (by decide) ?_
  refine r_icmp_ge cx 55 dX12_bedCommand_48 (by decide) hF (fun hF => ?_) (fun hF => ?_)
  · refine r_iconst cx 0 dX12_bedCommand_55 (by decide) ?_
    exact b56 v7 v9 v11 v13 0 s14 _ _ _ hP (lv_sub hl [4, 3, 2, 1, 0] rfl) hF
  · refine r_iconst cx 1 dX12_bedCommand_51 (by decide) ?_
    refine r_goto cx 56 dX12_bedCommand_52 (by decide) ?_
    exact b56 v7 v9 v11 v13 1 s14 _ _ _ hP (lv_sub hl [4, 3, 2, 1, 0] rfl) hF
set_option maxHeartbeats 4000000 in
set_option maxRecDepth 100000 in
theorem w12_sellCommand (l : Launch) (Γ : Wc) (ad : Nat → Nat → Nat) (A : Nat → Prop)  (σ : Sig) (σ1 : Sig) (hF : f12_sellCommand  σ = some σ1) : MV l SM Γ ad A yX12_sellCommand cX12_sellCommand 6 5 109 [.ref (ad 0 0)] σ σ1 := by
  refine MV.of (by decide) (Nat.le_of_ble_eq_true rfl) ?_
  intro p e s m args below meth c ls cx hr hk hP hl
  have hl : lv_has ls 6 [(0, .ref (ad 0 0))] := hl
  rw [f12_sellCommand] at hF
  generalize hH0 : s.heap = H0 at hP ⊢
  generalize ([] : List Loc) = locs0 at hP ⊢
  clear hH0
  have b88 : ∀ (x1 : Int32) (x2 : Int32) (x3 : Int32) (x4 : Int32) (t1 : Int32) (σ : Sig) (H : Heap) (locs : List Loc) (ls : Array Slot), PS SM Γ ad A s σ H locs → lv_has ls 6 [(0, .ref (ad 0 0)), (1, .int x1), (2, .int x2), (3, .int x3), (4, .int x4)] → f12_sellCommand_b88 x1 x2 x3 x4 t1 σ = some σ1 → W p l e (rmz 5 109) s m args below meth c H locs 0 0 (QV SM Γ ad A below args s σ1) (F0 m 88 ls [.int t1, .ref (ad 0 0)]) := by
    intro x1 x2 x3 x4 t1 σ H locs ls hP hl hF
    rw [f12_sellCommand_b88] at hF
    obtain ⟨v1, s2, hc, hF⟩ := bns_some hF
    refine r_callVi cx hP (As := [.int t1]) (w12_ends l Γ ad A t1 σ v1 s2 hc) mw12_249 ⟨Nat.le_of_ble_eq_true rfl, Nat.le_of_ble_eq_true rfl⟩ (dMr (by decide)) rfl rfl rfl (Nat.le_of_ble_eq_true rfl) hl.1 ⟨Nat.zero_le _, Nat.zero_le _⟩ dX12_sellCommand_88 (fun H locs hP => ?_)
    refine r_if_eq cx 105 dX12_sellCommand_91 (by decide) hF (fun hF => ?_) (fun hF => ?_)
    · exact r_vret cx hP hr hk dX12_sellCommand_105 hF
    · refine r_aload_n cx dX12_sellCommand_94 (lv_at hl 0 rfl) ?_
      refine r_iload_n cx dX12_sellCommand_95 (lv_at hl 1 rfl) ?_
      refine r_iload_n cx dX12_sellCommand_96 (lv_at hl 2 rfl) ?_
      refine r_iload_n cx dX12_sellCommand_97 (lv_at hl 3 rfl) ?_
      refine r_iload cx dX12_sellCommand_98 (lv_at hl 4 rfl) ?_
      obtain ⟨v3, s4, hc, hF⟩ := bns_some hF
      refine r_callVi cx hP (As := [.int x1, .int x2, .int x3, .int x4]) (w12_makePass l Γ ad A x1 x2 x3 x4 s2 v3 s4 hc) mw12_46 ⟨Nat.le_of_ble_eq_true rfl, Nat.le_of_ble_eq_true rfl⟩ (dMr (by decide)) rfl rfl rfl (Nat.le_of_ble_eq_true rfl) hl.1 ⟨Nat.zero_le _, Nat.zero_le _⟩ dX12_sellCommand_100 (fun H locs hP => ?_)
      refine r_istore cx [(5, .int v3), (0, .ref (ad 0 0)), (1, .int x1), (2, .int x2), (3, .int x3), (4, .int x4)] dX12_sellCommand_103 hl (by decide) rfl (fun ls hl => ?_)
      exact r_vret cx hP hr hk dX12_sellCommand_105 hF
  have b71 : ∀ (x1 : Int32) (x2 : Int32) (x3 : Int32) (x4 : Int32) (σ : Sig) (H : Heap) (locs : List Loc) (ls : Array Slot), PS SM Γ ad A s σ H locs → lv_has ls 6 [(0, .ref (ad 0 0)), (1, .int x1), (2, .int x2), (3, .int x3), (4, .int x4)] → f12_sellCommand_b71 x1 x2 x3 x4 σ = some σ1 → W p l e (rmz 5 109) s m args below meth c H locs 0 0 (QV SM Γ ad A below args s σ1) (F0 m 71 ls []) := by
    intro x1 x2 x3 x4 σ H locs ls hP hl hF
    rw [f12_sellCommand_b71] at hF
    refine r_aload_n cx dX12_sellCommand_71 (lv_at hl 0 rfl) ?_
    obtain ⟨s5, hc, hF⟩ := bnd_some hF
    refine r_callVv cx hP (As := []) (w12_advance l Γ ad A σ s5 hc) mw12_243 ⟨Nat.le_of_ble_eq_true rfl, Nat.le_of_ble_eq_true rfl⟩ (dMr (by decide)) rfl rfl rfl (Nat.le_of_ble_eq_true rfl) hl.1 ⟨Nat.zero_le _, Nat.zero_le _⟩ dX12_sellCommand_72 (fun H locs hP => ?_)
    refine r_aload_n cx dX12_sellCommand_75 (lv_at hl 0 rfl) ?_
    refine r_aload_n cx dX12_sellCommand_76 (lv_at hl 0 rfl) ?_
    obtain ⟨v6, hc, hF⟩ := bnd_some hF
    refine r_callVi cx hP (As := []) (w12_soldOut l Γ ad A s5 v6 hc) mw12_159 ⟨Nat.le_of_ble_eq_true rfl, Nat.le_of_ble_eq_true rfl⟩ (dMr (by decide)) rfl rfl rfl (Nat.le_of_ble_eq_true rfl) hl.1 ⟨Nat.zero_le _, Nat.zero_le _⟩ dX12_sellCommand_77 (fun H locs hP => ?_)
    refine r_if_ne cx 87 dX12_sellCommand_80 (by decide) hF (fun hF => ?_) (fun hF => ?_)
    · refine r_iconst cx 0 dX12_sellCommand_87 (by decide) ?_
      exact b88 x1 x2 x3 x4 0 s5 _ _ _ hP (lv_sub hl [0, 1, 2, 3, 4] rfl) hF
    · refine r_iconst cx 1 dX12_sellCommand_83 (by decide) ?_
      refine r_goto cx 88 dX12_sellCommand_84 (by decide) ?_
      exact b88 x1 x2 x3 x4 1 s5 _ _ _ hP (lv_sub hl [0, 1, 2, 3, 4] rfl) hF
  have b44 : ∀ (x1 : Int32) (x2 : Int32) (x3 : Int32) (t0 : Int32) (σ : Sig) (H : Heap) (locs : List Loc) (ls : Array Slot), PS SM Γ ad A s σ H locs → lv_has ls 6 [(0, .ref (ad 0 0)), (1, .int x1), (2, .int x2), (3, .int x3)] → f12_sellCommand_b44 x1 x2 x3 t0 σ = some σ1 → W p l e (rmz 5 109) s m args below meth c H locs 0 0 (QV SM Γ ad A below args s σ1) (F0 m 44 ls [.int t0]) := by
    intro x1 x2 x3 t0 σ H locs ls hP hl hF
    rw [f12_sellCommand_b44] at hF
    refine r_istore cx [(4, .int t0), (0, .ref (ad 0 0)), (1, .int x1), (2, .int x2), (3, .int x3)] dX12_sellCommand_44 hl (by decide) rfl (fun ls hl => ?_)
    refine r_aload_n cx dX12_sellCommand_46 (lv_at hl 1 rfl) ?_
    refine r_ldc_w cx (k := 18) (by decide) (by decide) dX12_sellCommand_47 ?_
    obtain ⟨v7, hc, hF⟩ := bnd_some hF
    refine r_callVi cx hP (As := [.ref (Γ.2.2.1 18)]) (w12_isWord l Γ ad A 18 (by decide) σ v7 hc) mw12_255 ⟨Nat.le_of_ble_eq_true rfl, Nat.le_of_ble_eq_true rfl⟩ (dMr (by decide)) rfl rfl rfl (Nat.le_of_ble_eq_true rfl) hl.1 ⟨Nat.zero_le _, Nat.zero_le _⟩ dX12_sellCommand_50 (fun H locs hP => ?_)
    refine r_if_ne cx 71 dX12_sellCommand_53 (by decide) hF (fun hF => ?_) (fun hF => ?_)
    · exact b71 x1 x2 x3 t0 σ _ _ _ hP (lv_sub hl [1, 2, 3, 4, 0] rfl) hF
    · refine r_aload_n cx dX12_sellCommand_56 (lv_at hl 1 rfl) ?_
      refine r_ldc_w cx (k := 17) (by decide) (by decide) dX12_sellCommand_57 ?_
      obtain ⟨v8, hc, hF⟩ := bnd_some hF
      refine r_callVi cx hP (As := [.ref (Γ.2.2.1 17)]) (w12_isWord l Γ ad A 17 (by decide) σ v8 hc) mw12_255 ⟨Nat.le_of_ble_eq_true rfl, Nat.le_of_ble_eq_true rfl⟩ (dMr (by decide)) rfl rfl rfl (Nat.le_of_ble_eq_true rfl) hl.1 ⟨Nat.zero_le _, Nat.zero_le _⟩ dX12_sellCommand_60 (fun H locs hP => ?_)
      refine r_if_ne cx 71 dX12_sellCommand_63 (by decide) hF (fun hF => ?_) (fun hF => ?_)
      · exact b71 x1 x2 x3 t0 σ _ _ _ hP (lv_sub hl [1, 2, 3, 4, 0] rfl) hF
      · refine r_aload_n cx dX12_sellCommand_66 (lv_at hl 1 rfl) ?_
        refine r_iconst cx 1 dX12_sellCommand_67 (by decide) ?_
        obtain ⟨s9, hc, hF⟩ := bnd_some hF
        refine r_callVv cx hP (As := [.int 1]) (w12_fail l Γ ad A 1 σ s9 hc) mw12_237 ⟨Nat.le_of_ble_eq_true rfl, Nat.le_of_ble_eq_true rfl⟩ (dMr (by decide)) rfl rfl rfl (Nat.le_of_ble_eq_true rfl) hl.1 ⟨Nat.zero_le _, Nat.zero_le _⟩ dX12_sellCommand_68 (fun H locs hP => ?_)
        exact b71 x1 x2 x3 t0 s9 _ _ _ hP (lv_sub hl [1, 2, 3, 4, 0] rfl) hF
  refine r_aload_n cx dX12_sellCommand_0 (lv_at hl 0 rfl) ?_
  refine r_iconst cx 1 dX12_sellCommand_1 (by decide) ?_
  refine r_aload_n cx dX12_sellCommand_2 (lv_at hl 0 rfl) ?_
  obtain ⟨v10, hc, hF⟩ := bnd_some hF
  refine r_callVi cx hP (As := []) (w12_allScents l Γ ad A σ v10 hc) mw12_153 ⟨Nat.le_of_ble_eq_true rfl, Nat.le_of_ble_eq_true rfl⟩ (dMr (by decide)) rfl rfl rfl (Nat.le_of_ble_eq_true rfl) hl.1 ⟨Nat.zero_le _, Nat.zero_le _⟩ dX12_sellCommand_3 (fun H locs hP => ?_)
  obtain ⟨v11, s12, hc, hF⟩ := bns_some hF
  refine r_callVi cx hP (As := [.int 1, .int v10]) (w12_number l Γ ad A 1 v10 σ v11 s12 hc) mw12_246 ⟨Nat.le_of_ble_eq_true rfl, Nat.le_of_ble_eq_true rfl⟩ (dMr (by decide)) rfl rfl rfl (Nat.le_of_ble_eq_true rfl) hl.1 ⟨Nat.zero_le _, Nat.zero_le _⟩ dX12_sellCommand_6 (fun H locs hP => ?_)
  refine r_istore_n cx [(1, .int v11), (0, .ref (ad 0 0))] dX12_sellCommand_9 hl (by decide) rfl (fun ls hl => ?_)
  refine r_aload_n cx dX12_sellCommand_10 (lv_at hl 1 rfl) ?_
  refine r_aload_n cx dX12_sellCommand_11 (lv_at hl 1 rfl) ?_
  obtain ⟨v13, hc, hF⟩ := bnd_some hF
  refine r_callVi cx hP (As := []) (w12_today l Γ ad A s12 v13 hc) mw12_81 ⟨Nat.le_of_ble_eq_true rfl, Nat.le_of_ble_eq_true rfl⟩ (dMr (by decide)) rfl rfl rfl (Nat.le_of_ble_eq_true rfl) hl.1 ⟨Nat.zero_le _, Nat.zero_le _⟩ dX12_sellCommand_12 (fun H locs hP => ?_)
  refine r_bipush cx 99 dX12_sellCommand_15 (by decide) ?_
  obtain ⟨v14, s15, hc, hF⟩ := bns_some hF
  refine r_callVi cx hP (As := [.int v13, .int 99]) (w12_number l Γ ad A v13 99 s12 v14 s15 hc) mw12_246 ⟨Nat.le_of_ble_eq_true rfl, Nat.le_of_ble_eq_true rfl⟩ (dMr (by decide)) rfl rfl rfl (Nat.le_of_ble_eq_true rfl) hl.1 ⟨Nat.zero_le _, Nat.zero_le _⟩ dX12_sellCommand_17 (fun H locs hP => ?_)
  refine r_istore_n cx [(2, .int v14), (1, .int v11), (0, .ref (ad 0 0))] dX12_sellCommand_20 hl (by decide) rfl (fun ls hl => ?_)
  refine r_aload_n cx dX12_sellCommand_21 (lv_at hl 2 rfl) ?_
  refine r_iconst cx 1 dX12_sellCommand_22 (by decide) ?_
  refine r_bipush cx 14 dX12_sellCommand_23 (by decide) ?_
  obtain ⟨v16, s17, hc, hF⟩ := bns_some hF
  refine r_callVi cx hP (As := [.int 1, .int 14]) (w12_number l Γ ad A 1 14 s15 v16 s17 hc) mw12_246 ⟨Nat.le_of_ble_eq_true rfl, Nat.le_of_ble_eq_true rfl⟩ (dMr (by decide)) rfl rfl rfl (Nat.le_of_ble_eq_true rfl) hl.1 ⟨Nat.zero_le _, Nat.zero_le _⟩ dX12_sellCommand_25 (fun H locs hP => ?_)
  refine r_istore_n cx [(3, .int v16), (2, .int v14), (1, .int v11), (0, .ref (ad 0 0))] dX12_sellCommand_28 hl (by decide) rfl (fun ls hl => ?_)
  refine r_aload_n cx dX12_sellCommand_29 (lv_at hl 3 rfl) ?_
  refine r_ldc_w cx (k := 17) (by decide) (by decide) dX12_sellCommand_30 ?_
  obtain ⟨v18, hc, hF⟩ := bnd_some hF
  refine r_callVi cx hP (As := [.ref (Γ.2.2.1 17)]) (w12_isWord l Γ ad A 17 (by decide) s17 v18 hc) mw12_255 ⟨Nat.le_of_ble_eq_true rfl, Nat.le_of_ble_eq_true rfl⟩ (dMr (by decide)) rfl rfl rfl (Nat.le_of_ble_eq_true rfl) hl.1 ⟨Nat.zero_le _, Nat.zero_le _⟩ dX12_sellCommand_33 (fun H locs hP => ?_)
  refine r_if_eq cx 43 dX12_sellCommand_36 (by decide) hF (fun hF => ?_) (fun hF => ?_)
  · refine r_iconst cx 0 dX12_sellCommand_43 (by decide) ?_
    exact b44 v11 v14 v16 0 s17 _ _ _ hP (lv_sub hl [3, 2, 1, 0] rfl) hF
  · refine r_iconst cx 1 dX12_sellCommand_39 (by decide) ?_
    refine r_goto cx 44 dX12_sellCommand_40 (by decide) ?_
    exact b44 v11 v14 v16 1 s17 _ _ _ hP (lv_sub hl [3, 2, 1, 0] rfl) hF
set_option maxHeartbeats 4000000 in
set_option maxRecDepth 100000 in
theorem w12_passCommand (l : Launch) (Γ : Wc) (ad : Nat → Nat → Nat) (A : Nat → Prop)  (σ : Sig) (σ1 : Sig) (hF : f12_passCommand  σ = some σ1) : MV l SM Γ ad A yX12_passCommand cX12_passCommand 4 5 109 [.ref (ad 0 0)] σ σ1 := by
  refine MV.of (by decide) (Nat.le_of_ble_eq_true rfl) ?_
  intro p e s m args below meth c ls cx hr hk hP hl
  have hl : lv_has ls 4 [(0, .ref (ad 0 0))] := hl
  rw [f12_passCommand] at hF
  generalize hH0 : s.heap = H0 at hP ⊢
  generalize ([] : List Loc) = locs0 at hP ⊢
  clear hH0
  have b65 : ∀ (σ : Sig) (H : Heap) (locs : List Loc) (ls : Array Slot), PS SM Γ ad A s σ H locs → lv_has ls 4 [] → f12_passCommand_b65 σ = some σ1 → W p l e (rmz 5 109) s m args below meth c H locs 0 0 (QV SM Γ ad A below args s σ1) (F0 m 65 ls []) := by
    intro σ H locs ls hP hl hF
    rw [f12_passCommand_b65] at hF
    refine r_goto cx 242 dX12_passCommand_65 (by decide) ?_
    exact r_vret cx hP hr hk dX12_passCommand_242 hF
  have b52 : ∀ (x1 : Int32) (x2 : Int32) (t1 : Int32) (σ : Sig) (H : Heap) (locs : List Loc) (ls : Array Slot), PS SM Γ ad A s σ H locs → lv_has ls 4 [(0, .ref (ad 0 0)), (1, .int x1), (2, .int x2)] → f12_passCommand_b52 x1 x2 t1 σ = some σ1 → W p l e (rmz 5 109) s m args below meth c H locs 0 0 (QV SM Γ ad A below args s σ1) (F0 m 52 ls [.int t1, .ref (ad 0 0)]) := by
    intro x1 x2 t1 σ H locs ls hP hl hF
    rw [f12_passCommand_b52] at hF
    obtain ⟨v1, s2, hc, hF⟩ := bns_some hF
    refine r_callVi cx hP (As := [.int t1]) (w12_ends l Γ ad A t1 σ v1 s2 hc) mw12_249 ⟨Nat.le_of_ble_eq_true rfl, Nat.le_of_ble_eq_true rfl⟩ (dMr (by decide)) rfl rfl rfl (Nat.le_of_ble_eq_true rfl) hl.1 ⟨Nat.zero_le _, Nat.zero_le _⟩ dX12_passCommand_52 (fun H locs hP => ?_)
    refine r_if_eq cx 65 dX12_passCommand_55 (by decide) hF (fun hF => ?_) (fun hF => ?_)
    · exact b65 s2 _ _ _ hP (lv_sub hl [] rfl) hF
    · refine r_aload_n cx dX12_passCommand_58 (lv_at hl 0 rfl) ?_
      refine r_iload_n cx dX12_passCommand_59 (lv_at hl 1 rfl) ?_
      refine r_iload_n cx dX12_passCommand_60 (lv_at hl 2 rfl) ?_
      obtain ⟨v3, s4, hc, hF⟩ := bns_some hF
      refine r_callVi cx hP (As := [.int x1, .int x2]) (w12_receive l Γ ad A x1 x2 s2 v3 s4 hc) mw12_126 ⟨Nat.le_of_ble_eq_true rfl, Nat.le_of_ble_eq_true rfl⟩ (dMr (by decide)) rfl rfl rfl (Nat.le_of_ble_eq_true rfl) hl.1 ⟨Nat.zero_le _, Nat.zero_le _⟩ dX12_passCommand_61 (fun H locs hP => ?_)
      refine r_istore_n cx [(3, .int v3), (0, .ref (ad 0 0)), (1, .int x1), (2, .int x2)] dX12_passCommand_64 hl (by decide) rfl (fun ls hl => ?_)
      exact b65 s4 _ _ _ hP (lv_sub hl [] rfl) hF
  have b51 : ∀ (x1 : Int32) (x2 : Int32) (σ : Sig) (H : Heap) (locs : List Loc) (ls : Array Slot), PS SM Γ ad A s σ H locs → lv_has ls 4 [(0, .ref (ad 0 0)), (1, .int x1), (2, .int x2)] → f12_passCommand_b51 x1 x2 σ = some σ1 → W p l e (rmz 5 109) s m args below meth c H locs 0 0 (QV SM Γ ad A below args s σ1) (F0 m 51 ls [.ref (ad 0 0)]) := by
    intro x1 x2 σ H locs ls hP hl hF
    rw [f12_passCommand_b51] at hF
    refine r_iconst cx 0 dX12_passCommand_51 (by decide) ?_
    exact b52 x1 x2 0 σ _ _ _ hP (lv_sub hl [0, 1, 2] rfl) hF
  have b122 : ∀ (σ : Sig) (H : Heap) (locs : List Loc) (ls : Array Slot), PS SM Γ ad A s σ H locs → lv_has ls 4 [] → f12_passCommand_b122 σ = some σ1 → W p l e (rmz 5 109) s m args below meth c H locs 0 0 (QV SM Γ ad A below args s σ1) (F0 m 122 ls []) := by
    intro σ H locs ls hP hl hF
    rw [f12_passCommand_b122] at hF
    refine r_goto cx 242 dX12_passCommand_122 (by decide) ?_
    exact r_vret cx hP hr hk dX12_passCommand_242 hF
  have b110 : ∀ (x1 : Int32) (t1 : Int32) (σ : Sig) (H : Heap) (locs : List Loc) (ls : Array Slot), PS SM Γ ad A s σ H locs → lv_has ls 4 [(0, .ref (ad 0 0)), (1, .int x1)] → f12_passCommand_b110 x1 t1 σ = some σ1 → W p l e (rmz 5 109) s m args below meth c H locs 0 0 (QV SM Γ ad A below args s σ1) (F0 m 110 ls [.int t1, .ref (ad 0 0)]) := by
    intro x1 t1 σ H locs ls hP hl hF
    rw [f12_passCommand_b110] at hF
    obtain ⟨v5, s6, hc, hF⟩ := bns_some hF
    refine r_callVi cx hP (As := [.int t1]) (w12_ends l Γ ad A t1 σ v5 s6 hc) mw12_249 ⟨Nat.le_of_ble_eq_true rfl, Nat.le_of_ble_eq_true rfl⟩ (dMr (by decide)) rfl rfl rfl (Nat.le_of_ble_eq_true rfl) hl.1 ⟨Nat.zero_le _, Nat.zero_le _⟩ dX12_passCommand_110 (fun H locs hP => ?_)
    refine r_if_eq cx 122 dX12_passCommand_113 (by decide) hF (fun hF => ?_) (fun hF => ?_)
    · exact b122 s6 _ _ _ hP (lv_sub hl [] rfl) hF
    · refine r_aload_n cx dX12_passCommand_116 (lv_at hl 0 rfl) ?_
      refine r_iload_n cx dX12_passCommand_117 (lv_at hl 1 rfl) ?_
      obtain ⟨v7, s8, hc, hF⟩ := bns_some hF
      refine r_callVi cx hP (As := [.int x1]) (w12_lose l Γ ad A x1 s6 v7 s8 hc) mw12_59 ⟨Nat.le_of_ble_eq_true rfl, Nat.le_of_ble_eq_true rfl⟩ (dMr (by decide)) rfl rfl rfl (Nat.le_of_ble_eq_true rfl) hl.1 ⟨Nat.zero_le _, Nat.zero_le _⟩ dX12_passCommand_118 (fun H locs hP => ?_)
      refine r_istore_n cx [(2, .int v7), (0, .ref (ad 0 0)), (1, .int x1)] dX12_passCommand_121 hl (by decide) rfl (fun ls hl => ?_)
      exact b122 s8 _ _ _ hP (lv_sub hl [] rfl) hF
  have b109 : ∀ (x1 : Int32) (σ : Sig) (H : Heap) (locs : List Loc) (ls : Array Slot), PS SM Γ ad A s σ H locs → lv_has ls 4 [(0, .ref (ad 0 0)), (1, .int x1)] → f12_passCommand_b109 x1 σ = some σ1 → W p l e (rmz 5 109) s m args below meth c H locs 0 0 (QV SM Γ ad A below args s σ1) (F0 m 109 ls [.ref (ad 0 0)]) := by
    intro x1 σ H locs ls hP hl hF
    rw [f12_passCommand_b109] at hF
    refine r_iconst cx 0 dX12_passCommand_109 (by decide) ?_
    exact b110 x1 0 σ _ _ _ hP (lv_sub hl [0, 1] rfl) hF
  have b177 : ∀ (σ : Sig) (H : Heap) (locs : List Loc) (ls : Array Slot), PS SM Γ ad A s σ H locs → lv_has ls 4 [] → f12_passCommand_b177 σ = some σ1 → W p l e (rmz 5 109) s m args below meth c H locs 0 0 (QV SM Γ ad A below args s σ1) (F0 m 177 ls []) := by
    intro σ H locs ls hP hl hF
    rw [f12_passCommand_b177] at hF
    refine r_goto cx 242 dX12_passCommand_177 (by decide) ?_
    exact r_vret cx hP hr hk dX12_passCommand_242 hF
  have b165 : ∀ (x1 : Int32) (t1 : Int32) (σ : Sig) (H : Heap) (locs : List Loc) (ls : Array Slot), PS SM Γ ad A s σ H locs → lv_has ls 4 [(0, .ref (ad 0 0)), (1, .int x1)] → f12_passCommand_b165 x1 t1 σ = some σ1 → W p l e (rmz 5 109) s m args below meth c H locs 0 0 (QV SM Γ ad A below args s σ1) (F0 m 165 ls [.int t1, .ref (ad 0 0)]) := by
    intro x1 t1 σ H locs ls hP hl hF
    rw [f12_passCommand_b165] at hF
    obtain ⟨v9, s10, hc, hF⟩ := bns_some hF
    refine r_callVi cx hP (As := [.int t1]) (w12_ends l Γ ad A t1 σ v9 s10 hc) mw12_249 ⟨Nat.le_of_ble_eq_true rfl, Nat.le_of_ble_eq_true rfl⟩ (dMr (by decide)) rfl rfl rfl (Nat.le_of_ble_eq_true rfl) hl.1 ⟨Nat.zero_le _, Nat.zero_le _⟩ dX12_passCommand_165 (fun H locs hP => ?_)
    refine r_if_eq cx 177 dX12_passCommand_168 (by decide) hF (fun hF => ?_) (fun hF => ?_)
    · exact b177 s10 _ _ _ hP (lv_sub hl [] rfl) hF
    · refine r_aload_n cx dX12_passCommand_171 (lv_at hl 0 rfl) ?_
      refine r_iload_n cx dX12_passCommand_172 (lv_at hl 1 rfl) ?_
      obtain ⟨v11, s12, hc, hF⟩ := bns_some hF
      refine r_callVi cx hP (As := [.int x1]) (w12_replaceIt l Γ ad A x1 s10 v11 s12 hc) mw12_175 ⟨Nat.le_of_ble_eq_true rfl, Nat.le_of_ble_eq_true rfl⟩ (dMr (by decide)) rfl rfl rfl (Nat.le_of_ble_eq_true rfl) hl.1 ⟨Nat.zero_le _, Nat.zero_le _⟩ dX12_passCommand_173 (fun H locs hP => ?_)
      refine r_istore_n cx [(2, .int v11), (0, .ref (ad 0 0)), (1, .int x1)] dX12_passCommand_176 hl (by decide) rfl (fun ls hl => ?_)
      exact b177 s12 _ _ _ hP (lv_sub hl [] rfl) hF
  have b164 : ∀ (x1 : Int32) (σ : Sig) (H : Heap) (locs : List Loc) (ls : Array Slot), PS SM Γ ad A s σ H locs → lv_has ls 4 [(0, .ref (ad 0 0)), (1, .int x1)] → f12_passCommand_b164 x1 σ = some σ1 → W p l e (rmz 5 109) s m args below meth c H locs 0 0 (QV SM Γ ad A below args s σ1) (F0 m 164 ls [.ref (ad 0 0)]) := by
    intro x1 σ H locs ls hP hl hF
    rw [f12_passCommand_b164] at hF
    refine r_iconst cx 0 dX12_passCommand_164 (by decide) ?_
    exact b165 x1 0 σ _ _ _ hP (lv_sub hl [0, 1] rfl) hF
  have b234 : ∀ (σ : Sig) (H : Heap) (locs : List Loc) (ls : Array Slot), PS SM Γ ad A s σ H locs → lv_has ls 4 [] → f12_passCommand_b234 σ = some σ1 → W p l e (rmz 5 109) s m args below meth c H locs 0 0 (QV SM Γ ad A below args s σ1) (F0 m 234 ls []) := by
    intro σ H locs ls hP hl hF
    rw [f12_passCommand_b234] at hF
    refine r_goto cx 242 dX12_passCommand_234 (by decide) ?_
    exact r_vret cx hP hr hk dX12_passCommand_242 hF
  have b222 : ∀ (x1 : Int32) (t1 : Int32) (σ : Sig) (H : Heap) (locs : List Loc) (ls : Array Slot), PS SM Γ ad A s σ H locs → lv_has ls 4 [(0, .ref (ad 0 0)), (1, .int x1)] → f12_passCommand_b222 x1 t1 σ = some σ1 → W p l e (rmz 5 109) s m args below meth c H locs 0 0 (QV SM Γ ad A below args s σ1) (F0 m 222 ls [.int t1, .ref (ad 0 0)]) := by
    intro x1 t1 σ H locs ls hP hl hF
    rw [f12_passCommand_b222] at hF
    obtain ⟨v13, s14, hc, hF⟩ := bns_some hF
    refine r_callVi cx hP (As := [.int t1]) (w12_ends l Γ ad A t1 σ v13 s14 hc) mw12_249 ⟨Nat.le_of_ble_eq_true rfl, Nat.le_of_ble_eq_true rfl⟩ (dMr (by decide)) rfl rfl rfl (Nat.le_of_ble_eq_true rfl) hl.1 ⟨Nat.zero_le _, Nat.zero_le _⟩ dX12_passCommand_222 (fun H locs hP => ?_)
    refine r_if_eq cx 234 dX12_passCommand_225 (by decide) hF (fun hF => ?_) (fun hF => ?_)
    · exact b234 s14 _ _ _ hP (lv_sub hl [] rfl) hF
    · refine r_aload_n cx dX12_passCommand_228 (lv_at hl 0 rfl) ?_
      refine r_iload_n cx dX12_passCommand_229 (lv_at hl 1 rfl) ?_
      obtain ⟨v15, s16, hc, hF⟩ := bns_some hF
      refine r_callVi cx hP (As := [.int x1]) (w12_giveBack l Γ ad A x1 s14 v15 s16 hc) mw12_178 ⟨Nat.le_of_ble_eq_true rfl, Nat.le_of_ble_eq_true rfl⟩ (dMr (by decide)) rfl rfl rfl (Nat.le_of_ble_eq_true rfl) hl.1 ⟨Nat.zero_le _, Nat.zero_le _⟩ dX12_passCommand_230 (fun H locs hP => ?_)
      refine r_istore_n cx [(2, .int v15), (0, .ref (ad 0 0)), (1, .int x1)] dX12_passCommand_233 hl (by decide) rfl (fun ls hl => ?_)
      exact b234 s16 _ _ _ hP (lv_sub hl [] rfl) hF
  have b221 : ∀ (x1 : Int32) (σ : Sig) (H : Heap) (locs : List Loc) (ls : Array Slot), PS SM Γ ad A s σ H locs → lv_has ls 4 [(0, .ref (ad 0 0)), (1, .int x1)] → f12_passCommand_b221 x1 σ = some σ1 → W p l e (rmz 5 109) s m args below meth c H locs 0 0 (QV SM Γ ad A below args s σ1) (F0 m 221 ls [.ref (ad 0 0)]) := by
    intro x1 σ H locs ls hP hl hF
    rw [f12_passCommand_b221] at hF
    refine r_iconst cx 0 dX12_passCommand_221 (by decide) ?_
    exact b222 x1 0 σ _ _ _ hP (lv_sub hl [0, 1] rfl) hF
  refine r_aload_n cx dX12_passCommand_0 (lv_at hl 0 rfl) ?_
  refine r_ldc_w cx (k := 23) (by decide) (by decide) dX12_passCommand_1 ?_
  obtain ⟨v17, hc, hF⟩ := bnd_some hF
  refine r_callVi cx hP (As := [.ref (Γ.2.2.1 23)]) (w12_isWord l Γ ad A 23 (by decide) σ v17 hc) mw12_255 ⟨Nat.le_of_ble_eq_true rfl, Nat.le_of_ble_eq_true rfl⟩ (dMr (by decide)) rfl rfl rfl (Nat.le_of_ble_eq_true rfl) hl.1 ⟨Nat.zero_le _, Nat.zero_le _⟩ dX12_passCommand_4 (fun H locs hP => ?_)
  refine r_if_eq cx 68 dX12_passCommand_7 (by decide) hF (fun hF => ?_) (fun hF => ?_)
  · refine r_aload_n cx dX12_passCommand_68 (lv_at hl 0 rfl) ?_
    refine r_ldc_w cx (k := 24) (by decide) (by decide) dX12_passCommand_69 ?_
    obtain ⟨v18, hc, hF⟩ := bnd_some hF
    refine r_callVi cx hP (As := [.ref (Γ.2.2.1 24)]) (w12_isWord l Γ ad A 24 (by decide) σ v18 hc) mw12_255 ⟨Nat.le_of_ble_eq_true rfl, Nat.le_of_ble_eq_true rfl⟩ (dMr (by decide)) rfl rfl rfl (Nat.le_of_ble_eq_true rfl) hl.1 ⟨Nat.zero_le _, Nat.zero_le _⟩ dX12_passCommand_72 (fun H locs hP => ?_)
    refine r_if_eq cx 125 dX12_passCommand_75 (by decide) hF (fun hF => ?_) (fun hF => ?_)
    · refine r_aload_n cx dX12_passCommand_125 (lv_at hl 0 rfl) ?_
      refine r_ldc_w cx (k := 25) (by decide) (by decide) dX12_passCommand_126 ?_
      obtain ⟨v19, hc, hF⟩ := bnd_some hF
      refine r_callVi cx hP (As := [.ref (Γ.2.2.1 25)]) (w12_isWord l Γ ad A 25 (by decide) σ v19 hc) mw12_255 ⟨Nat.le_of_ble_eq_true rfl, Nat.le_of_ble_eq_true rfl⟩ (dMr (by decide)) rfl rfl rfl (Nat.le_of_ble_eq_true rfl) hl.1 ⟨Nat.zero_le _, Nat.zero_le _⟩ dX12_passCommand_129 (fun H locs hP => ?_)
      refine r_if_eq cx 180 dX12_passCommand_132 (by decide) hF (fun hF => ?_) (fun hF => ?_)
      · refine r_aload_n cx dX12_passCommand_180 (lv_at hl 0 rfl) ?_
        refine r_ldc_w cx (k := 26) (by decide) (by decide) dX12_passCommand_181 ?_
        obtain ⟨v20, hc, hF⟩ := bnd_some hF
        refine r_callVi cx hP (As := [.ref (Γ.2.2.1 26)]) (w12_isWord l Γ ad A 26 (by decide) σ v20 hc) mw12_255 ⟨Nat.le_of_ble_eq_true rfl, Nat.le_of_ble_eq_true rfl⟩ (dMr (by decide)) rfl rfl rfl (Nat.le_of_ble_eq_true rfl) hl.1 ⟨Nat.zero_le _, Nat.zero_le _⟩ dX12_passCommand_184 (fun H locs hP => ?_)
        refine r_if_eq cx 237 dX12_passCommand_187 (by decide) hF (fun hF => ?_) (fun hF => ?_)
        · refine r_aload_n cx dX12_passCommand_237 (lv_at hl 0 rfl) ?_
          refine r_iconst cx 1 dX12_passCommand_238 (by decide) ?_
          obtain ⟨s21, hc, hF⟩ := bnd_some hF
          refine r_callVv cx hP (As := [.int 1]) (w12_fail l Γ ad A 1 σ s21 hc) mw12_237 ⟨Nat.le_of_ble_eq_true rfl, Nat.le_of_ble_eq_true rfl⟩ (dMr (by decide)) rfl rfl rfl (Nat.le_of_ble_eq_true rfl) hl.1 ⟨Nat.zero_le _, Nat.zero_le _⟩ dX12_passCommand_239 (fun H locs hP => ?_)
          exact r_vret cx hP hr hk dX12_passCommand_242 hF
        · refine r_aload_n cx dX12_passCommand_190 (lv_at hl 0 rfl) ?_
          obtain ⟨s22, hc, hF⟩ := bnd_some hF
          refine r_callVv cx hP (As := []) (w12_scan l Γ ad A σ s22 hc) mw12_234 ⟨Nat.le_of_ble_eq_true rfl, Nat.le_of_ble_eq_true rfl⟩ (dMr (by decide)) rfl rfl rfl (Nat.le_of_ble_eq_true rfl) hl.1 ⟨Nat.zero_le _, Nat.zero_le _⟩ dX12_passCommand_191 (fun H locs hP => ?_)
          refine r_aload_n cx dX12_passCommand_194 (lv_at hl 0 rfl) ?_
          obtain ⟨v23, s24, hc, hF⟩ := bns_some hF
          refine r_callVi cx hP (As := []) (w12_aPass l Γ ad A s22 v23 s24 hc) mw12_297 ⟨Nat.le_of_ble_eq_true rfl, Nat.le_of_ble_eq_true rfl⟩ (dMr (by decide)) rfl rfl rfl (Nat.le_of_ble_eq_true rfl) hl.1 ⟨Nat.zero_le _, Nat.zero_le _⟩ dX12_passCommand_195 (fun H locs hP => ?_)
          refine r_istore_n cx [(1, .int v23), (0, .ref (ad 0 0))] dX12_passCommand_198 hl (by decide) rfl (fun ls hl => ?_)
          refine r_aload_n cx dX12_passCommand_199 (lv_at hl 1 rfl) ?_
          refine r_aload_n cx dX12_passCommand_200 (lv_at hl 1 rfl) ?_
          obtain ⟨v25, hc, hF⟩ := bnd_some hF
          refine r_callVi cx hP (As := []) (w12_good l Γ ad A s24 v25 hc) mw12_231 ⟨Nat.le_of_ble_eq_true rfl, Nat.le_of_ble_eq_true rfl⟩ (dMr (by decide)) rfl rfl rfl (Nat.le_of_ble_eq_true rfl) hl.1 ⟨Nat.zero_le _, Nat.zero_le _⟩ dX12_passCommand_201 (fun H locs hP => ?_)
          refine r_if_eq cx 221 dX12_passCommand_204 (by decide) hF (fun hF => ?_) (fun hF => ?_)
          · exact b221 v23 s24 _ _ _ hP (lv_sub hl [1, 0] rfl) hF
          · refine r_aload_n cx dX12_passCommand_207 (lv_at hl 1 rfl) ?_
            refine r_iload_n cx dX12_passCommand_208 (lv_at hl 0 rfl) ?_
            refine r_bipush cx 6 dX12_passCommand_209 (by decide) ?_
            obtain ⟨v26, hc, hF⟩ := bnd_some hF
            refine r_callVi cx hP (As := [.int v23, .int 6]) (w12_of l Γ ad A v23 6 s24 v26 hc) mw12_88 ⟨Nat.le_of_ble_eq_true rfl, Nat.le_of_ble_eq_true rfl⟩ (dMr (by decide)) rfl rfl rfl (Nat.le_of_ble_eq_true rfl) hl.1 ⟨Nat.zero_le _, Nat.zero_le _⟩ dX12_passCommand_211 (fun H locs hP => ?_)
            refine r_if_ne cx 221 dX12_passCommand_214 (by decide) hF (fun hF => ?_) (fun hF => ?_)
            · exact b221 v23 s24 _ _ _ hP (lv_sub hl [1, 0] rfl) hF
            · refine r_iconst cx 1 dX12_passCommand_217 (by decide) ?_
              refine r_goto cx 222 dX12_passCommand_218 (by decide) ?_
              exact b222 v23 1 s24 _ _ _ hP (lv_sub hl [1, 0] rfl) hF
      · refine r_aload_n cx dX12_passCommand_135 (lv_at hl 0 rfl) ?_
        obtain ⟨s27, hc, hF⟩ := bnd_some hF
        refine r_callVv cx hP (As := []) (w12_scan l Γ ad A σ s27 hc) mw12_234 ⟨Nat.le_of_ble_eq_true rfl, Nat.le_of_ble_eq_true rfl⟩ (dMr (by decide)) rfl rfl rfl (Nat.le_of_ble_eq_true rfl) hl.1 ⟨Nat.zero_le _, Nat.zero_le _⟩ dX12_passCommand_136 (fun H locs hP => ?_)
        refine r_aload_n cx dX12_passCommand_139 (lv_at hl 0 rfl) ?_
        obtain ⟨v28, s29, hc, hF⟩ := bns_some hF
        refine r_callVi cx hP (As := []) (w12_aPass l Γ ad A s27 v28 s29 hc) mw12_297 ⟨Nat.le_of_ble_eq_true rfl, Nat.le_of_ble_eq_true rfl⟩ (dMr (by decide)) rfl rfl rfl (Nat.le_of_ble_eq_true rfl) hl.1 ⟨Nat.zero_le _, Nat.zero_le _⟩ dX12_passCommand_140 (fun H locs hP => ?_)
        refine r_istore_n cx [(1, .int v28), (0, .ref (ad 0 0))] dX12_passCommand_143 hl (by decide) rfl (fun ls hl => ?_)
        refine r_aload_n cx dX12_passCommand_144 (lv_at hl 1 rfl) ?_
        refine r_aload_n cx dX12_passCommand_145 (lv_at hl 1 rfl) ?_
        obtain ⟨v30, hc, hF⟩ := bnd_some hF
        refine r_callVi cx hP (As := []) (w12_good l Γ ad A s29 v30 hc) mw12_231 ⟨Nat.le_of_ble_eq_true rfl, Nat.le_of_ble_eq_true rfl⟩ (dMr (by decide)) rfl rfl rfl (Nat.le_of_ble_eq_true rfl) hl.1 ⟨Nat.zero_le _, Nat.zero_le _⟩ dX12_passCommand_146 (fun H locs hP => ?_)
        refine r_if_eq cx 164 dX12_passCommand_149 (by decide) hF (fun hF => ?_) (fun hF => ?_)
        · exact b164 v28 s29 _ _ _ hP (lv_sub hl [1, 0] rfl) hF
        · refine r_aload_n cx dX12_passCommand_152 (lv_at hl 1 rfl) ?_
          refine r_iload_n cx dX12_passCommand_153 (lv_at hl 0 rfl) ?_
          obtain ⟨v31, hc, hF⟩ := bnd_some hF
          refine r_callVi cx hP (As := [.int v28]) (w12_cannotReplace l Γ ad A v28 s29 v31 hc) mw12_172 ⟨Nat.le_of_ble_eq_true rfl, Nat.le_of_ble_eq_true rfl⟩ (dMr (by decide)) rfl rfl rfl (Nat.le_of_ble_eq_true rfl) hl.1 ⟨Nat.zero_le _, Nat.zero_le _⟩ dX12_passCommand_154 (fun H locs hP => ?_)
          refine r_if_ne cx 164 dX12_passCommand_157 (by decide) hF (fun hF => ?_) (fun hF => ?_)
          · exact b164 v28 s29 _ _ _ hP (lv_sub hl [1, 0] rfl) hF
          · refine r_iconst cx 1 dX12_passCommand_160 (by decide) ?_
            refine r_goto cx 165 dX12_passCommand_161 (by decide) ?_
            exact b165 v28 1 s29 _ _ _ hP (lv_sub hl [1, 0] rfl) hF
    · refine r_aload_n cx dX12_passCommand_78 (lv_at hl 0 rfl) ?_
      obtain ⟨s32, hc, hF⟩ := bnd_some hF
      refine r_callVv cx hP (As := []) (w12_scan l Γ ad A σ s32 hc) mw12_234 ⟨Nat.le_of_ble_eq_true rfl, Nat.le_of_ble_eq_true rfl⟩ (dMr (by decide)) rfl rfl rfl (Nat.le_of_ble_eq_true rfl) hl.1 ⟨Nat.zero_le _, Nat.zero_le _⟩ dX12_passCommand_79 (fun H locs hP => ?_)
      refine r_aload_n cx dX12_passCommand_82 (lv_at hl 0 rfl) ?_
      obtain ⟨v33, s34, hc, hF⟩ := bns_some hF
      refine r_callVi cx hP (As := []) (w12_aPass l Γ ad A s32 v33 s34 hc) mw12_297 ⟨Nat.le_of_ble_eq_true rfl, Nat.le_of_ble_eq_true rfl⟩ (dMr (by decide)) rfl rfl rfl (Nat.le_of_ble_eq_true rfl) hl.1 ⟨Nat.zero_le _, Nat.zero_le _⟩ dX12_passCommand_83 (fun H locs hP => ?_)
      refine r_istore_n cx [(1, .int v33), (0, .ref (ad 0 0))] dX12_passCommand_86 hl (by decide) rfl (fun ls hl => ?_)
      refine r_aload_n cx dX12_passCommand_87 (lv_at hl 1 rfl) ?_
      refine r_aload_n cx dX12_passCommand_88 (lv_at hl 1 rfl) ?_
      obtain ⟨v35, hc, hF⟩ := bnd_some hF
      refine r_callVi cx hP (As := []) (w12_good l Γ ad A s34 v35 hc) mw12_231 ⟨Nat.le_of_ble_eq_true rfl, Nat.le_of_ble_eq_true rfl⟩ (dMr (by decide)) rfl rfl rfl (Nat.le_of_ble_eq_true rfl) hl.1 ⟨Nat.zero_le _, Nat.zero_le _⟩ dX12_passCommand_89 (fun H locs hP => ?_)
      refine r_if_eq cx 109 dX12_passCommand_92 (by decide) hF (fun hF => ?_) (fun hF => ?_)
      · exact b109 v33 s34 _ _ _ hP (lv_sub hl [1, 0] rfl) hF
      · refine r_aload_n cx dX12_passCommand_95 (lv_at hl 1 rfl) ?_
        refine r_iload_n cx dX12_passCommand_96 (lv_at hl 0 rfl) ?_
        refine r_iconst cx 5 dX12_passCommand_97 (by decide) ?_
        obtain ⟨v36, hc, hF⟩ := bnd_some hF
        refine r_callVi cx hP (As := [.int v33, .int 5]) (w12_of l Γ ad A v33 5 s34 v36 hc) mw12_88 ⟨Nat.le_of_ble_eq_true rfl, Nat.le_of_ble_eq_true rfl⟩ (dMr (by decide)) rfl rfl rfl (Nat.le_of_ble_eq_true rfl) hl.1 ⟨Nat.zero_le _, Nat.zero_le _⟩ dX12_passCommand_98 (fun H locs hP => ?_)
        refine r_iconst cx (-1) dX12_passCommand_101 (by decide) ?_
        refine r_icmp_eq cx 109 dX12_passCommand_102 (by decide) hF (fun hF => ?_) (fun hF => ?_)
        · exact b109 v33 s34 _ _ _ hP (lv_sub hl [1, 0] rfl) hF
        · refine r_iconst cx 1 dX12_passCommand_105 (by decide) ?_
          refine r_goto cx 110 dX12_passCommand_106 (by decide) ?_
          exact b110 v33 1 s34 _ _ _ hP (lv_sub hl [1, 0] rfl) hF
  · refine r_aload_n cx dX12_passCommand_10 (lv_at hl 0 rfl) ?_
    obtain ⟨s37, hc, hF⟩ := bnd_some hF
    refine r_callVv cx hP (As := []) (w12_scan l Γ ad A σ s37 hc) mw12_234 ⟨Nat.le_of_ble_eq_true rfl, Nat.le_of_ble_eq_true rfl⟩ (dMr (by decide)) rfl rfl rfl (Nat.le_of_ble_eq_true rfl) hl.1 ⟨Nat.zero_le _, Nat.zero_le _⟩ dX12_passCommand_11 (fun H locs hP => ?_)
    refine r_aload_n cx dX12_passCommand_14 (lv_at hl 0 rfl) ?_
    obtain ⟨v38, s39, hc, hF⟩ := bns_some hF
    refine r_callVi cx hP (As := []) (w12_aPass l Γ ad A s37 v38 s39 hc) mw12_297 ⟨Nat.le_of_ble_eq_true rfl, Nat.le_of_ble_eq_true rfl⟩ (dMr (by decide)) rfl rfl rfl (Nat.le_of_ble_eq_true rfl) hl.1 ⟨Nat.zero_le _, Nat.zero_le _⟩ dX12_passCommand_15 (fun H locs hP => ?_)
    refine r_istore_n cx [(1, .int v38), (0, .ref (ad 0 0))] dX12_passCommand_18 hl (by decide) rfl (fun ls hl => ?_)
    refine r_aload_n cx dX12_passCommand_19 (lv_at hl 1 rfl) ?_
    refine r_iconst cx 1 dX12_passCommand_20 (by decide) ?_
    refine r_sipush cx 9999 dX12_passCommand_21 (by decide) ?_
    obtain ⟨v40, s41, hc, hF⟩ := bns_some hF
    refine r_callVi cx hP (As := [.int 1, .int 9999]) (w12_number l Γ ad A 1 9999 s39 v40 s41 hc) mw12_246 ⟨Nat.le_of_ble_eq_true rfl, Nat.le_of_ble_eq_true rfl⟩ (dMr (by decide)) rfl rfl rfl (Nat.le_of_ble_eq_true rfl) hl.1 ⟨Nat.zero_le _, Nat.zero_le _⟩ dX12_passCommand_24 (fun H locs hP => ?_)
    refine r_istore_n cx [(2, .int v40), (1, .int v38), (0, .ref (ad 0 0))] dX12_passCommand_27 hl (by decide) rfl (fun ls hl => ?_)
    refine r_aload_n cx dX12_passCommand_28 (lv_at hl 2 rfl) ?_
    refine r_aload_n cx dX12_passCommand_29 (lv_at hl 2 rfl) ?_
    obtain ⟨v42, hc, hF⟩ := bnd_some hF
    refine r_callVi cx hP (As := []) (w12_good l Γ ad A s41 v42 hc) mw12_231 ⟨Nat.le_of_ble_eq_true rfl, Nat.le_of_ble_eq_true rfl⟩ (dMr (by decide)) rfl rfl rfl (Nat.le_of_ble_eq_true rfl) hl.1 ⟨Nat.zero_le _, Nat.zero_le _⟩ dX12_passCommand_30 (fun H locs hP => ?_)
    refine r_if_eq cx 51 dX12_passCommand_33 (by decide) hF (fun hF => ?_) (fun hF => ?_)
    · exact b51 v38 v40 s41 _ _ _ hP (lv_sub hl [2, 1, 0] rfl) hF
    · refine r_aload_n cx dX12_passCommand_36 (lv_at hl 2 rfl) ?_
      refine r_iload_n cx dX12_passCommand_37 (lv_at hl 1 rfl) ?_
      refine r_bipush cx 11 dX12_passCommand_38 (by decide) ?_
      obtain ⟨v43, hc, hF⟩ := bnd_some hF
      refine r_callVi cx hP (As := [.int v38, .int 11]) (w12_of l Γ ad A v38 11 s41 v43 hc) mw12_88 ⟨Nat.le_of_ble_eq_true rfl, Nat.le_of_ble_eq_true rfl⟩ (dMr (by decide)) rfl rfl rfl (Nat.le_of_ble_eq_true rfl) hl.1 ⟨Nat.zero_le _, Nat.zero_le _⟩ dX12_passCommand_40 (fun H locs hP => ?_)
      refine r_iload_n cx dX12_passCommand_43 (lv_at hl 0 rfl) ?_
      refine r_icmp_lt cx 51 dX12_passCommand_44 (by decide) hF (fun hF => ?_) (fun hF => ?_)
      · exact b51 v38 v40 s41 _ _ _ hP (lv_sub hl [2, 1, 0] rfl) hF
      · refine r_iconst cx 1 dX12_passCommand_47 (by decide) ?_
        refine r_goto cx 52 dX12_passCommand_48 (by decide) ?_
        exact b52 v38 v40 1 s41 _ _ _ hP (lv_sub hl [2, 1, 0] rfl) hF
set_option maxHeartbeats 4000000 in
set_option maxRecDepth 100000 in
theorem w12_command (l : Launch) (Γ : Wc) (ad : Nat → Nat → Nat) (A : Nat → Prop)  (σ : Sig) (σ1 : Sig) (hF : f12_command  σ = some σ1) : MV l SM Γ ad A yX12_command cX12_command 4 6 134 [.ref (ad 0 0)] σ σ1 := by
  refine MV.of (by decide) (Nat.le_of_ble_eq_true rfl) ?_
  intro p e s m args below meth c ls cx hr hk hP hl
  have hl : lv_has ls 4 [(0, .ref (ad 0 0))] := hl
  rw [f12_command] at hF
  generalize hH0 : s.heap = H0 at hP ⊢
  generalize ([] : List Loc) = locs0 at hP ⊢
  clear hH0
  have b110 : ∀ (σ : Sig) (H : Heap) (locs : List Loc) (ls : Array Slot), PS SM Γ ad A s σ H locs → lv_has ls 4 [] → f12_command_b110 σ = some σ1 → W p l e (rmz 6 134) s m args below meth c H locs 0 0 (QV SM Γ ad A below args s σ1) (F0 m 110 ls []) := by
    intro σ H locs ls hP hl hF
    rw [f12_command_b110] at hF
    refine r_goto cx 296 dX12_command_110 (by decide) ?_
    exact r_vret cx hP hr hk dX12_command_296 hF
  have b97 : ∀ (x1 : Int32) (x2 : Int32) (t1 : Int32) (σ : Sig) (H : Heap) (locs : List Loc) (ls : Array Slot), PS SM Γ ad A s σ H locs → lv_has ls 4 [(0, .ref (ad 0 0)), (1, .int x1), (2, .int x2)] → f12_command_b97 x1 x2 t1 σ = some σ1 → W p l e (rmz 6 134) s m args below meth c H locs 0 0 (QV SM Γ ad A below args s σ1) (F0 m 97 ls [.int t1, .ref (ad 0 0)]) := by
    intro x1 x2 t1 σ H locs ls hP hl hF
    rw [f12_command_b97] at hF
    obtain ⟨v1, s2, hc, hF⟩ := bns_some hF
    refine r_callVi cx hP (As := [.int t1]) (w12_ends l Γ ad A t1 σ v1 s2 hc) mw12_249 ⟨Nat.le_of_ble_eq_true rfl, Nat.le_of_ble_eq_true rfl⟩ (dMr (by decide)) rfl rfl rfl (Nat.le_of_ble_eq_true rfl) hl.1 ⟨Nat.zero_le _, Nat.zero_le _⟩ dX12_command_97 (fun H locs hP => ?_)
    refine r_if_eq cx 110 dX12_command_100 (by decide) hF (fun hF => ?_) (fun hF => ?_)
    · exact b110 s2 _ _ _ hP (lv_sub hl [] rfl) hF
    · refine r_aload_n cx dX12_command_103 (lv_at hl 0 rfl) ?_
      refine r_iload_n cx dX12_command_104 (lv_at hl 1 rfl) ?_
      refine r_iload_n cx dX12_command_105 (lv_at hl 2 rfl) ?_
      obtain ⟨v3, s4, hc, hF⟩ := bns_some hF
      refine r_callVi cx hP (As := [.int x1, .int x2]) (w12_show l Γ ad A x1 x2 s2 v3 s4 hc) mw12_52 ⟨Nat.le_of_ble_eq_true rfl, Nat.le_of_ble_eq_true rfl⟩ (dMr (by decide)) rfl rfl rfl (Nat.le_of_ble_eq_true rfl) hl.1 ⟨Nat.zero_le _, Nat.zero_le _⟩ dX12_command_106 (fun H locs hP => ?_)
      refine r_istore_n cx [(3, .int v3), (0, .ref (ad 0 0)), (1, .int x1), (2, .int x2)] dX12_command_109 hl (by decide) rfl (fun ls hl => ?_)
      exact b110 s4 _ _ _ hP (lv_sub hl [] rfl) hF
  have b96 : ∀ (x1 : Int32) (x2 : Int32) (σ : Sig) (H : Heap) (locs : List Loc) (ls : Array Slot), PS SM Γ ad A s σ H locs → lv_has ls 4 [(0, .ref (ad 0 0)), (1, .int x1), (2, .int x2)] → f12_command_b96 x1 x2 σ = some σ1 → W p l e (rmz 6 134) s m args below meth c H locs 0 0 (QV SM Γ ad A below args s σ1) (F0 m 96 ls [.ref (ad 0 0)]) := by
    intro x1 x2 σ H locs ls hP hl hF
    rw [f12_command_b96] at hF
    refine r_iconst cx 0 dX12_command_96 (by decide) ?_
    exact b97 x1 x2 0 σ _ _ _ hP (lv_sub hl [0, 1, 2] rfl) hF
  have b175 : ∀ (σ : Sig) (H : Heap) (locs : List Loc) (ls : Array Slot), PS SM Γ ad A s σ H locs → lv_has ls 4 [] → f12_command_b175 σ = some σ1 → W p l e (rmz 6 134) s m args below meth c H locs 0 0 (QV SM Γ ad A below args s σ1) (F0 m 175 ls []) := by
    intro σ H locs ls hP hl hF
    rw [f12_command_b175] at hF
    refine r_goto cx 296 dX12_command_175 (by decide) ?_
    exact r_vret cx hP hr hk dX12_command_296 hF
  have b162 : ∀ (x1 : Int32) (x2 : Int32) (t1 : Int32) (σ : Sig) (H : Heap) (locs : List Loc) (ls : Array Slot), PS SM Γ ad A s σ H locs → lv_has ls 4 [(0, .ref (ad 0 0)), (1, .int x1), (2, .int x2)] → f12_command_b162 x1 x2 t1 σ = some σ1 → W p l e (rmz 6 134) s m args below meth c H locs 0 0 (QV SM Γ ad A below args s σ1) (F0 m 162 ls [.int t1, .ref (ad 0 0)]) := by
    intro x1 x2 t1 σ H locs ls hP hl hF
    rw [f12_command_b162] at hF
    obtain ⟨v5, s6, hc, hF⟩ := bns_some hF
    refine r_callVi cx hP (As := [.int t1]) (w12_ends l Γ ad A t1 σ v5 s6 hc) mw12_249 ⟨Nat.le_of_ble_eq_true rfl, Nat.le_of_ble_eq_true rfl⟩ (dMr (by decide)) rfl rfl rfl (Nat.le_of_ble_eq_true rfl) hl.1 ⟨Nat.zero_le _, Nat.zero_le _⟩ dX12_command_162 (fun H locs hP => ?_)
    refine r_if_eq cx 175 dX12_command_165 (by decide) hF (fun hF => ?_) (fun hF => ?_)
    · exact b175 s6 _ _ _ hP (lv_sub hl [] rfl) hF
    · refine r_aload_n cx dX12_command_168 (lv_at hl 0 rfl) ?_
      refine r_iload_n cx dX12_command_169 (lv_at hl 1 rfl) ?_
      refine r_iload_n cx dX12_command_170 (lv_at hl 2 rfl) ?_
      obtain ⟨v7, s8, hc, hF⟩ := bns_some hF
      refine r_callVi cx hP (As := [.int x1, .int x2]) (w12_take l Γ ad A x1 x2 s6 v7 s8 hc) mw12_56 ⟨Nat.le_of_ble_eq_true rfl, Nat.le_of_ble_eq_true rfl⟩ (dMr (by decide)) rfl rfl rfl (Nat.le_of_ble_eq_true rfl) hl.1 ⟨Nat.zero_le _, Nat.zero_le _⟩ dX12_command_171 (fun H locs hP => ?_)
      refine r_istore_n cx [(3, .int v7), (0, .ref (ad 0 0)), (1, .int x1), (2, .int x2)] dX12_command_174 hl (by decide) rfl (fun ls hl => ?_)
      exact b175 s8 _ _ _ hP (lv_sub hl [] rfl) hF
  have b161 : ∀ (x1 : Int32) (x2 : Int32) (σ : Sig) (H : Heap) (locs : List Loc) (ls : Array Slot), PS SM Γ ad A s σ H locs → lv_has ls 4 [(0, .ref (ad 0 0)), (1, .int x1), (2, .int x2)] → f12_command_b161 x1 x2 σ = some σ1 → W p l e (rmz 6 134) s m args below meth c H locs 0 0 (QV SM Γ ad A below args s σ1) (F0 m 161 ls [.ref (ad 0 0)]) := by
    intro x1 x2 σ H locs ls hP hl hF
    rw [f12_command_b161] at hF
    refine r_iconst cx 0 dX12_command_161 (by decide) ?_
    exact b162 x1 x2 0 σ _ _ _ hP (lv_sub hl [0, 1, 2] rfl) hF
  have b232 : ∀ (σ : Sig) (H : Heap) (locs : List Loc) (ls : Array Slot), PS SM Γ ad A s σ H locs → lv_has ls 4 [] → f12_command_b232 σ = some σ1 → W p l e (rmz 6 134) s m args below meth c H locs 0 0 (QV SM Γ ad A below args s σ1) (F0 m 232 ls []) := by
    intro σ H locs ls hP hl hF
    rw [f12_command_b232] at hF
    refine r_goto cx 296 dX12_command_232 (by decide) ?_
    exact r_vret cx hP hr hk dX12_command_296 hF
  have b221 : ∀ (x1 : Int32) (t1 : Int32) (σ : Sig) (H : Heap) (locs : List Loc) (ls : Array Slot), PS SM Γ ad A s σ H locs → lv_has ls 4 [(0, .ref (ad 0 0)), (1, .int x1)] → f12_command_b221 x1 t1 σ = some σ1 → W p l e (rmz 6 134) s m args below meth c H locs 0 0 (QV SM Γ ad A below args s σ1) (F0 m 221 ls [.int t1, .ref (ad 0 0)]) := by
    intro x1 t1 σ H locs ls hP hl hF
    rw [f12_command_b221] at hF
    obtain ⟨v9, s10, hc, hF⟩ := bns_some hF
    refine r_callVi cx hP (As := [.int t1]) (w12_ends l Γ ad A t1 σ v9 s10 hc) mw12_249 ⟨Nat.le_of_ble_eq_true rfl, Nat.le_of_ble_eq_true rfl⟩ (dMr (by decide)) rfl rfl rfl (Nat.le_of_ble_eq_true rfl) hl.1 ⟨Nat.zero_le _, Nat.zero_le _⟩ dX12_command_221 (fun H locs hP => ?_)
    refine r_if_eq cx 232 dX12_command_224 (by decide) hF (fun hF => ?_) (fun hF => ?_)
    · exact b232 s10 _ _ _ hP (lv_sub hl [] rfl) hF
    · refine r_aload_n cx dX12_command_227 (lv_at hl 0 rfl) ?_
      refine r_iload_n cx dX12_command_228 (lv_at hl 1 rfl) ?_
      obtain ⟨s11, hc, hF⟩ := bnd_some hF
      refine r_callVv cx hP (As := [.int x1]) (w12_passAll l Γ ad A x1 s10 s11 hc) mw12_49 ⟨Nat.le_of_ble_eq_true rfl, Nat.le_of_ble_eq_true rfl⟩ (dMr (by decide)) rfl rfl rfl (Nat.le_of_ble_eq_true rfl) hl.1 ⟨Nat.zero_le _, Nat.zero_le _⟩ dX12_command_229 (fun H locs hP => ?_)
      exact b232 s11 _ _ _ hP (lv_sub hl [] rfl) hF
  have b289 : ∀ (σ : Sig) (H : Heap) (locs : List Loc) (ls : Array Slot), PS SM Γ ad A s σ H locs → lv_has ls 4 [] → f12_command_b289 σ = some σ1 → W p l e (rmz 6 134) s m args below meth c H locs 0 0 (QV SM Γ ad A below args s σ1) (F0 m 289 ls []) := by
    intro σ H locs ls hP hl hF
    rw [f12_command_b289] at hF
    refine r_goto cx 296 dX12_command_289 (by decide) ?_
    exact r_vret cx hP hr hk dX12_command_296 hF
  refine r_aload_n cx dX12_command_0 (lv_at hl 0 rfl) ?_
  refine r_ldc_w cx (k := 15) (by decide) (by decide) dX12_command_1 ?_
  obtain ⟨v12, hc, hF⟩ := bnd_some hF
  refine r_callVi cx hP (As := [.ref (Γ.2.2.1 15)]) (w12_isWord l Γ ad A 15 (by decide) σ v12 hc) mw12_255 ⟨Nat.le_of_ble_eq_true rfl, Nat.le_of_ble_eq_true rfl⟩ (dMr (by decide)) rfl rfl rfl (Nat.le_of_ble_eq_true rfl) hl.1 ⟨Nat.zero_le _, Nat.zero_le _⟩ dX12_command_4 (fun H locs hP => ?_)
  refine r_if_eq cx 21 dX12_command_7 (by decide) hF (fun hF => ?_) (fun hF => ?_)
  · refine r_aload_n cx dX12_command_21 (lv_at hl 0 rfl) ?_
    refine r_ldc_w cx (k := 16) (by decide) (by decide) dX12_command_22 ?_
    obtain ⟨v13, hc, hF⟩ := bnd_some hF
    refine r_callVi cx hP (As := [.ref (Γ.2.2.1 16)]) (w12_isWord l Γ ad A 16 (by decide) σ v13 hc) mw12_255 ⟨Nat.le_of_ble_eq_true rfl, Nat.le_of_ble_eq_true rfl⟩ (dMr (by decide)) rfl rfl rfl (Nat.le_of_ble_eq_true rfl) hl.1 ⟨Nat.zero_le _, Nat.zero_le _⟩ dX12_command_25 (fun H locs hP => ?_)
    refine r_if_eq cx 42 dX12_command_28 (by decide) hF (fun hF => ?_) (fun hF => ?_)
    · refine r_aload_n cx dX12_command_42 (lv_at hl 0 rfl) ?_
      refine r_ldc_w cx (k := 19) (by decide) (by decide) dX12_command_43 ?_
      obtain ⟨v14, hc, hF⟩ := bnd_some hF
      refine r_callVi cx hP (As := [.ref (Γ.2.2.1 19)]) (w12_isWord l Γ ad A 19 (by decide) σ v14 hc) mw12_255 ⟨Nat.le_of_ble_eq_true rfl, Nat.le_of_ble_eq_true rfl⟩ (dMr (by decide)) rfl rfl rfl (Nat.le_of_ble_eq_true rfl) hl.1 ⟨Nat.zero_le _, Nat.zero_le _⟩ dX12_command_46 (fun H locs hP => ?_)
      refine r_if_eq cx 113 dX12_command_49 (by decide) hF (fun hF => ?_) (fun hF => ?_)
      · refine r_aload_n cx dX12_command_113 (lv_at hl 0 rfl) ?_
        refine r_ldc_w cx (k := 20) (by decide) (by decide) dX12_command_114 ?_
        obtain ⟨v15, hc, hF⟩ := bnd_some hF
        refine r_callVi cx hP (As := [.ref (Γ.2.2.1 20)]) (w12_isWord l Γ ad A 20 (by decide) σ v15 hc) mw12_255 ⟨Nat.le_of_ble_eq_true rfl, Nat.le_of_ble_eq_true rfl⟩ (dMr (by decide)) rfl rfl rfl (Nat.le_of_ble_eq_true rfl) hl.1 ⟨Nat.zero_le _, Nat.zero_le _⟩ dX12_command_117 (fun H locs hP => ?_)
        refine r_if_eq cx 178 dX12_command_120 (by decide) hF (fun hF => ?_) (fun hF => ?_)
        · refine r_aload_n cx dX12_command_178 (lv_at hl 0 rfl) ?_
          refine r_ldc_w cx (k := 21) (by decide) (by decide) dX12_command_179 ?_
          obtain ⟨v16, hc, hF⟩ := bnd_some hF
          refine r_callVi cx hP (As := [.ref (Γ.2.2.1 21)]) (w12_isWord l Γ ad A 21 (by decide) σ v16 hc) mw12_255 ⟨Nat.le_of_ble_eq_true rfl, Nat.le_of_ble_eq_true rfl⟩ (dMr (by decide)) rfl rfl rfl (Nat.le_of_ble_eq_true rfl) hl.1 ⟨Nat.zero_le _, Nat.zero_le _⟩ dX12_command_182 (fun H locs hP => ?_)
          refine r_if_eq cx 235 dX12_command_185 (by decide) hF (fun hF => ?_) (fun hF => ?_)
          · refine r_aload_n cx dX12_command_235 (lv_at hl 0 rfl) ?_
            refine r_ldc_w cx (k := 22) (by decide) (by decide) dX12_command_236 ?_
            obtain ⟨v17, hc, hF⟩ := bnd_some hF
            refine r_callVi cx hP (As := [.ref (Γ.2.2.1 22)]) (w12_isWord l Γ ad A 22 (by decide) σ v17 hc) mw12_255 ⟨Nat.le_of_ble_eq_true rfl, Nat.le_of_ble_eq_true rfl⟩ (dMr (by decide)) rfl rfl rfl (Nat.le_of_ble_eq_true rfl) hl.1 ⟨Nat.zero_le _, Nat.zero_le _⟩ dX12_command_239 (fun H locs hP => ?_)
            refine r_if_eq cx 292 dX12_command_242 (by decide) hF (fun hF => ?_) (fun hF => ?_)
            · refine r_aload_n cx dX12_command_292 (lv_at hl 0 rfl) ?_
              obtain ⟨s18, hc, hF⟩ := bnd_some hF
              refine r_callVv cx hP (As := []) (w12_passCommand l Γ ad A σ s18 hc) mw12_288 ⟨Nat.le_of_ble_eq_true rfl, Nat.le_of_ble_eq_true rfl⟩ (dMr (by decide)) rfl rfl rfl (Nat.le_of_ble_eq_true rfl) hl.1 ⟨Nat.zero_le _, Nat.zero_le _⟩ dX12_command_293 (fun H locs hP => ?_)
              exact r_vret cx hP hr hk dX12_command_296 hF
            · refine r_aload_n cx dX12_command_245 (lv_at hl 0 rfl) ?_
              obtain ⟨s19, hc, hF⟩ := bnd_some hF
              refine r_callVv cx hP (As := []) (w12_scan l Γ ad A σ s19 hc) mw12_234 ⟨Nat.le_of_ble_eq_true rfl, Nat.le_of_ble_eq_true rfl⟩ (dMr (by decide)) rfl rfl rfl (Nat.le_of_ble_eq_true rfl) hl.1 ⟨Nat.zero_le _, Nat.zero_le _⟩ dX12_command_246 (fun H locs hP => ?_)
              refine r_aload_n cx dX12_command_249 (lv_at hl 0 rfl) ?_
              refine r_iconst cx 0 dX12_command_250 (by decide) ?_
              refine r_bipush cx 95 dX12_command_251 (by decide) ?_
              obtain ⟨v20, s21, hc, hF⟩ := bns_some hF
              refine r_callVi cx hP (As := [.int 0, .int 95]) (w12_number l Γ ad A 0 95 s19 v20 s21 hc) mw12_246 ⟨Nat.le_of_ble_eq_true rfl, Nat.le_of_ble_eq_true rfl⟩ (dMr (by decide)) rfl rfl rfl (Nat.le_of_ble_eq_true rfl) hl.1 ⟨Nat.zero_le _, Nat.zero_le _⟩ dX12_command_253 (fun H locs hP => ?_)
              refine r_istore_n cx [(1, .int v20), (0, .ref (ad 0 0))] dX12_command_256 hl (by decide) rfl (fun ls hl => ?_)
              refine r_aload_n cx dX12_command_257 (lv_at hl 1 rfl) ?_
              refine r_iload_n cx dX12_command_258 (lv_at hl 0 rfl) ?_
              refine r_bipush cx 95 dX12_command_259 (by decide) ?_
              obtain ⟨v22, s23, hc, hF⟩ := bns_some hF
              refine r_callVi cx hP (As := [.int v20, .int 95]) (w12_number l Γ ad A v20 95 s21 v22 s23 hc) mw12_246 ⟨Nat.le_of_ble_eq_true rfl, Nat.le_of_ble_eq_true rfl⟩ (dMr (by decide)) rfl rfl rfl (Nat.le_of_ble_eq_true rfl) hl.1 ⟨Nat.zero_le _, Nat.zero_le _⟩ dX12_command_261 (fun H locs hP => ?_)
              refine r_istore_n cx [(2, .int v22), (1, .int v20), (0, .ref (ad 0 0))] dX12_command_264 hl (by decide) rfl (fun ls hl => ?_)
              refine r_aload_n cx dX12_command_265 (lv_at hl 2 rfl) ?_
              refine r_iconst cx 1 dX12_command_266 (by decide) ?_
              obtain ⟨v24, s25, hc, hF⟩ := bns_some hF
              refine r_callVi cx hP (As := [.int 1]) (w12_ends l Γ ad A 1 s23 v24 s25 hc) mw12_249 ⟨Nat.le_of_ble_eq_true rfl, Nat.le_of_ble_eq_true rfl⟩ (dMr (by decide)) rfl rfl rfl (Nat.le_of_ble_eq_true rfl) hl.1 ⟨Nat.zero_le _, Nat.zero_le _⟩ dX12_command_267 (fun H locs hP => ?_)
              refine r_if_eq cx 289 dX12_command_270 (by decide) hF (fun hF => ?_) (fun hF => ?_)
              · exact b289 s25 _ _ _ hP (lv_sub hl [] rfl) hF
              · refine r_aload_n cx dX12_command_273 (lv_at hl 2 rfl) ?_
                refine gf12_9 cx hP dX12_command_274 ?_
                refine r_bipush cx 7 dX12_command_277 (by decide) ?_
                refine r_iload_n cx dX12_command_279 (lv_at hl 1 rfl) ?_
                refine r_iast cx hP (dMr (by decide)) (fun _ => rfl) dX12_command_280 hF (fun s26 H locs hP hF => ?_)
                refine r_aload_n cx dX12_command_281 (lv_at hl 2 rfl) ?_
                refine gf12_9 cx hP dX12_command_282 ?_
                refine r_bipush cx 8 dX12_command_285 (by decide) ?_
                refine r_iload_n cx dX12_command_287 (lv_at hl 0 rfl) ?_
                refine r_iast cx hP (dMr (by decide)) (fun _ => rfl) dX12_command_288 hF (fun s27 H locs hP hF => ?_)
                exact b289 s27 _ _ _ hP (lv_sub hl [] rfl) hF
          · refine r_aload_n cx dX12_command_188 (lv_at hl 0 rfl) ?_
            obtain ⟨s28, hc, hF⟩ := bnd_some hF
            refine r_callVv cx hP (As := []) (w12_scan l Γ ad A σ s28 hc) mw12_234 ⟨Nat.le_of_ble_eq_true rfl, Nat.le_of_ble_eq_true rfl⟩ (dMr (by decide)) rfl rfl rfl (Nat.le_of_ble_eq_true rfl) hl.1 ⟨Nat.zero_le _, Nat.zero_le _⟩ dX12_command_189 (fun H locs hP => ?_)
            refine r_aload_n cx dX12_command_192 (lv_at hl 0 rfl) ?_
            refine r_iconst cx 1 dX12_command_193 (by decide) ?_
            refine r_sipush cx 500 dX12_command_194 (by decide) ?_
            obtain ⟨v29, s30, hc, hF⟩ := bns_some hF
            refine r_callVi cx hP (As := [.int 1, .int 500]) (w12_number l Γ ad A 1 500 s28 v29 s30 hc) mw12_246 ⟨Nat.le_of_ble_eq_true rfl, Nat.le_of_ble_eq_true rfl⟩ (dMr (by decide)) rfl rfl rfl (Nat.le_of_ble_eq_true rfl) hl.1 ⟨Nat.zero_le _, Nat.zero_le _⟩ dX12_command_197 (fun H locs hP => ?_)
            refine r_istore_n cx [(1, .int v29), (0, .ref (ad 0 0))] dX12_command_200 hl (by decide) rfl (fun ls hl => ?_)
            refine r_aload_n cx dX12_command_201 (lv_at hl 1 rfl) ?_
            refine r_aload_n cx dX12_command_202 (lv_at hl 1 rfl) ?_
            refine gf12_9 cx hP dX12_command_203 ?_
            refine r_iconst cx 4 dX12_command_206 (by decide) ?_
            refine r_iald cx hP (dMr (by decide)) rfl dX12_command_207 hF (fun v31 hF => ?_)
            refine r_iload_n cx dX12_command_208 (lv_at hl 0 rfl) ?_
            refine r_iadd cx dX12_command_209 hF (fun v32 hF => ?_)
            refine r_sipush cx 9599 dX12_command_210 (by decide) ?_
            refine r_icmp_gt cx 220 dX12_command_213 (by decide) hF (fun hF => ?_) (fun hF => ?_)
            · refine r_iconst cx 0 dX12_command_220 (by decide) ?_
              exact b221 v29 0 s30 _ _ _ hP (lv_sub hl [1, 0] rfl) hF
            · refine r_iconst cx 1 dX12_command_216 (by decide) ?_
              refine r_goto cx 221 dX12_command_217 (by decide) ?_
              exact b221 v29 1 s30 _ _ _ hP (lv_sub hl [1, 0] rfl) hF
        · refine r_aload_n cx dX12_command_123 (lv_at hl 0 rfl) ?_
          obtain ⟨s33, hc, hF⟩ := bnd_some hF
          refine r_callVv cx hP (As := []) (w12_scan l Γ ad A σ s33 hc) mw12_234 ⟨Nat.le_of_ble_eq_true rfl, Nat.le_of_ble_eq_true rfl⟩ (dMr (by decide)) rfl rfl rfl (Nat.le_of_ble_eq_true rfl) hl.1 ⟨Nat.zero_le _, Nat.zero_le _⟩ dX12_command_124 (fun H locs hP => ?_)
          refine r_aload_n cx dX12_command_127 (lv_at hl 0 rfl) ?_
          obtain ⟨v34, s35, hc, hF⟩ := bns_some hF
          refine r_callVi cx hP (As := []) (w12_aCard l Γ ad A s33 v34 s35 hc) mw12_279 ⟨Nat.le_of_ble_eq_true rfl, Nat.le_of_ble_eq_true rfl⟩ (dMr (by decide)) rfl rfl rfl (Nat.le_of_ble_eq_true rfl) hl.1 ⟨Nat.zero_le _, Nat.zero_le _⟩ dX12_command_128 (fun H locs hP => ?_)
          refine r_istore_n cx [(1, .int v34), (0, .ref (ad 0 0))] dX12_command_131 hl (by decide) rfl (fun ls hl => ?_)
          refine r_aload_n cx dX12_command_132 (lv_at hl 1 rfl) ?_
          refine r_iconst cx 1 dX12_command_133 (by decide) ?_
          refine r_bipush cx 9 dX12_command_134 (by decide) ?_
          obtain ⟨v36, s37, hc, hF⟩ := bns_some hF
          refine r_callVi cx hP (As := [.int 1, .int 9]) (w12_number l Γ ad A 1 9 s35 v36 s37 hc) mw12_246 ⟨Nat.le_of_ble_eq_true rfl, Nat.le_of_ble_eq_true rfl⟩ (dMr (by decide)) rfl rfl rfl (Nat.le_of_ble_eq_true rfl) hl.1 ⟨Nat.zero_le _, Nat.zero_le _⟩ dX12_command_136 (fun H locs hP => ?_)
          refine r_istore_n cx [(2, .int v36), (1, .int v34), (0, .ref (ad 0 0))] dX12_command_139 hl (by decide) rfl (fun ls hl => ?_)
          refine r_aload_n cx dX12_command_140 (lv_at hl 2 rfl) ?_
          refine r_aload_n cx dX12_command_141 (lv_at hl 2 rfl) ?_
          obtain ⟨v38, hc, hF⟩ := bnd_some hF
          refine r_callVi cx hP (As := []) (w12_good l Γ ad A s37 v38 hc) mw12_231 ⟨Nat.le_of_ble_eq_true rfl, Nat.le_of_ble_eq_true rfl⟩ (dMr (by decide)) rfl rfl rfl (Nat.le_of_ble_eq_true rfl) hl.1 ⟨Nat.zero_le _, Nat.zero_le _⟩ dX12_command_142 (fun H locs hP => ?_)
          refine r_if_eq cx 161 dX12_command_145 (by decide) hF (fun hF => ?_) (fun hF => ?_)
          · exact b161 v34 v36 s37 _ _ _ hP (lv_sub hl [2, 1, 0] rfl) hF
          · refine r_aload_n cx dX12_command_148 (lv_at hl 2 rfl) ?_
            refine r_iload_n cx dX12_command_149 (lv_at hl 1 rfl) ?_
            refine r_iload_n cx dX12_command_150 (lv_at hl 0 rfl) ?_
            obtain ⟨v39, hc, hF⟩ := bnd_some hF
            refine r_callVi cx hP (As := [.int v34, .int v36]) (w12_cannotPluck l Γ ad A v34 v36 s37 v39 hc) mw12_187 ⟨Nat.le_of_ble_eq_true rfl, Nat.le_of_ble_eq_true rfl⟩ (dMr (by decide)) rfl rfl rfl (Nat.le_of_ble_eq_true rfl) hl.1 ⟨Nat.zero_le _, Nat.zero_le _⟩ dX12_command_151 (fun H locs hP => ?_)
            refine r_if_ne cx 161 dX12_command_154 (by decide) hF (fun hF => ?_) (fun hF => ?_)
            · exact b161 v34 v36 s37 _ _ _ hP (lv_sub hl [2, 1, 0] rfl) hF
            · refine r_iconst cx 1 dX12_command_157 (by decide) ?_
              refine r_goto cx 162 dX12_command_158 (by decide) ?_
              exact b162 v34 v36 1 s37 _ _ _ hP (lv_sub hl [2, 1, 0] rfl) hF
      · refine r_aload_n cx dX12_command_52 (lv_at hl 0 rfl) ?_
        obtain ⟨s40, hc, hF⟩ := bnd_some hF
        refine r_callVv cx hP (As := []) (w12_scan l Γ ad A σ s40 hc) mw12_234 ⟨Nat.le_of_ble_eq_true rfl, Nat.le_of_ble_eq_true rfl⟩ (dMr (by decide)) rfl rfl rfl (Nat.le_of_ble_eq_true rfl) hl.1 ⟨Nat.zero_le _, Nat.zero_le _⟩ dX12_command_53 (fun H locs hP => ?_)
        refine r_aload_n cx dX12_command_56 (lv_at hl 0 rfl) ?_
        obtain ⟨v41, s42, hc, hF⟩ := bns_some hF
        refine r_callVi cx hP (As := []) (w12_aCard l Γ ad A s40 v41 s42 hc) mw12_279 ⟨Nat.le_of_ble_eq_true rfl, Nat.le_of_ble_eq_true rfl⟩ (dMr (by decide)) rfl rfl rfl (Nat.le_of_ble_eq_true rfl) hl.1 ⟨Nat.zero_le _, Nat.zero_le _⟩ dX12_command_57 (fun H locs hP => ?_)
        refine r_istore_n cx [(1, .int v41), (0, .ref (ad 0 0))] dX12_command_60 hl (by decide) rfl (fun ls hl => ?_)
        refine r_aload_n cx dX12_command_61 (lv_at hl 1 rfl) ?_
        refine r_iconst cx 0 dX12_command_62 (by decide) ?_
        refine r_aload_n cx dX12_command_63 (lv_at hl 1 rfl) ?_
        refine gf12_9 cx hP dX12_command_64 ?_
        refine r_iconst cx 1 dX12_command_67 (by decide) ?_
        refine r_iald cx hP (dMr (by decide)) rfl dX12_command_68 hF (fun v43 hF => ?_)
        refine r_iconst cx 1 dX12_command_69 (by decide) ?_
        refine r_isub cx dX12_command_70 hF (fun v44 hF => ?_)
        obtain ⟨v45, s46, hc, hF⟩ := bns_some hF
        refine r_callVi cx hP (As := [.int 0, .int v44]) (w12_number l Γ ad A 0 v44 s42 v45 s46 hc) mw12_246 ⟨Nat.le_of_ble_eq_true rfl, Nat.le_of_ble_eq_true rfl⟩ (dMr (by decide)) rfl rfl rfl (Nat.le_of_ble_eq_true rfl) hl.1 ⟨Nat.zero_le _, Nat.zero_le _⟩ dX12_command_71 (fun H locs hP => ?_)
        refine r_istore_n cx [(2, .int v45), (1, .int v41), (0, .ref (ad 0 0))] dX12_command_74 hl (by decide) rfl (fun ls hl => ?_)
        refine r_aload_n cx dX12_command_75 (lv_at hl 2 rfl) ?_
        refine r_aload_n cx dX12_command_76 (lv_at hl 2 rfl) ?_
        obtain ⟨v47, hc, hF⟩ := bnd_some hF
        refine r_callVi cx hP (As := []) (w12_good l Γ ad A s46 v47 hc) mw12_231 ⟨Nat.le_of_ble_eq_true rfl, Nat.le_of_ble_eq_true rfl⟩ (dMr (by decide)) rfl rfl rfl (Nat.le_of_ble_eq_true rfl) hl.1 ⟨Nat.zero_le _, Nat.zero_le _⟩ dX12_command_77 (fun H locs hP => ?_)
        refine r_if_eq cx 96 dX12_command_80 (by decide) hF (fun hF => ?_) (fun hF => ?_)
        · exact b96 v41 v45 s46 _ _ _ hP (lv_sub hl [2, 1, 0] rfl) hF
        · refine r_aload_n cx dX12_command_83 (lv_at hl 2 rfl) ?_
          refine r_iload_n cx dX12_command_84 (lv_at hl 1 rfl) ?_
          refine r_iload_n cx dX12_command_85 (lv_at hl 0 rfl) ?_
          obtain ⟨v48, hc, hF⟩ := bnd_some hF
          refine r_callVi cx hP (As := [.int v41, .int v45]) (w12_refusal l Γ ad A v41 v45 s46 v48 hc) mw12_117 ⟨Nat.le_of_ble_eq_true rfl, Nat.le_of_ble_eq_true rfl⟩ (dMr (by decide)) rfl rfl rfl (Nat.le_of_ble_eq_true rfl) hl.1 ⟨Nat.zero_le _, Nat.zero_le _⟩ dX12_command_86 (fun H locs hP => ?_)
          refine r_if_ne cx 96 dX12_command_89 (by decide) hF (fun hF => ?_) (fun hF => ?_)
          · exact b96 v41 v45 s46 _ _ _ hP (lv_sub hl [2, 1, 0] rfl) hF
          · refine r_iconst cx 1 dX12_command_92 (by decide) ?_
            refine r_goto cx 97 dX12_command_93 (by decide) ?_
            exact b97 v41 v45 1 s46 _ _ _ hP (lv_sub hl [2, 1, 0] rfl) hF
    · refine r_aload_n cx dX12_command_31 (lv_at hl 0 rfl) ?_
      obtain ⟨s49, hc, hF⟩ := bnd_some hF
      refine r_callVv cx hP (As := []) (w12_scan l Γ ad A σ s49 hc) mw12_234 ⟨Nat.le_of_ble_eq_true rfl, Nat.le_of_ble_eq_true rfl⟩ (dMr (by decide)) rfl rfl rfl (Nat.le_of_ble_eq_true rfl) hl.1 ⟨Nat.zero_le _, Nat.zero_le _⟩ dX12_command_32 (fun H locs hP => ?_)
      refine r_aload_n cx dX12_command_35 (lv_at hl 0 rfl) ?_
      obtain ⟨s50, hc, hF⟩ := bnd_some hF
      refine r_callVv cx hP (As := []) (w12_sellCommand l Γ ad A s49 s50 hc) mw12_274 ⟨Nat.le_of_ble_eq_true rfl, Nat.le_of_ble_eq_true rfl⟩ (dMr (by decide)) rfl rfl rfl (Nat.le_of_ble_eq_true rfl) hl.1 ⟨Nat.zero_le _, Nat.zero_le _⟩ dX12_command_36 (fun H locs hP => ?_)
      refine r_goto cx 296 dX12_command_39 (by decide) ?_
      exact r_vret cx hP hr hk dX12_command_296 hF
  · refine r_aload_n cx dX12_command_10 (lv_at hl 0 rfl) ?_
    obtain ⟨s51, hc, hF⟩ := bnd_some hF
    refine r_callVv cx hP (As := []) (w12_scan l Γ ad A σ s51 hc) mw12_234 ⟨Nat.le_of_ble_eq_true rfl, Nat.le_of_ble_eq_true rfl⟩ (dMr (by decide)) rfl rfl rfl (Nat.le_of_ble_eq_true rfl) hl.1 ⟨Nat.zero_le _, Nat.zero_le _⟩ dX12_command_11 (fun H locs hP => ?_)
    refine r_aload_n cx dX12_command_14 (lv_at hl 0 rfl) ?_
    obtain ⟨s52, hc, hF⟩ := bnd_some hF
    refine r_callVv cx hP (As := []) (w12_bedCommand l Γ ad A s51 s52 hc) mw12_269 ⟨Nat.le_of_ble_eq_true rfl, Nat.le_of_ble_eq_true rfl⟩ (dMr (by decide)) rfl rfl rfl (Nat.le_of_ble_eq_true rfl) hl.1 ⟨Nat.zero_le _, Nat.zero_le _⟩ dX12_command_15 (fun H locs hP => ?_)
    refine r_goto cx 296 dX12_command_18 (by decide) ?_
    exact r_vret cx hP hr hk dX12_command_296 hF
set_option maxHeartbeats 4000000 in
set_option maxRecDepth 100000 in
theorem w12_runScript (l : Launch) (Γ : Wc) (ad : Nat → Nat → Nat) (A : Nat → Prop)  (σ : Sig) (r : Int32) (σ1 : Sig) (hF : f12_runScript  σ = some (r, σ1)) : MI l SM Γ ad A yX12_runScript cX12_runScript 1 (some .int) 7 157 [.ref (ad 0 0)] σ r σ1 := by
  refine MI.of (by decide) (Nat.le_of_ble_eq_true rfl) ?_
  intro p e s m args below meth c ls cx hr hk hP hl
  have hl : lv_has ls 1 [(0, .ref (ad 0 0))] := hl
  rw [f12_runScript] at hF
  generalize hH0 : s.heap = H0 at hP ⊢
  generalize ([] : List Loc) = locs0 at hP ⊢
  clear hH0
  have b93 : ∀ (σ : Sig) (H : Heap) (locs : List Loc) (ls : Array Slot), PS SM Γ ad A s σ H locs → lv_has ls 1 [(0, .ref (ad 0 0))] → f12_runScript_b93 σ = some (r, σ1) → W p l e (rmz 7 157) s m args below meth c H locs 0 0 (QI SM Γ ad A below args s r σ1) (F0 m 93 ls []) := by
    intro σ H locs ls hP hl hF
    rw [f12_runScript_b93] at hF
    refine r_aload_n cx dX12_runScript_93 (lv_at hl 0 rfl) ?_
    refine r_iconst cx 0 dX12_runScript_94 (by decide) ?_
    refine pf12_195 cx hP dX12_runScript_95 hF (fun s1 H locs hP hF => ?_)
    refine r_aload_n cx dX12_runScript_98 (lv_at hl 0 rfl) ?_
    refine r_aload_n cx dX12_runScript_99 (lv_at hl 0 rfl) ?_
    refine gf12_216 cx hP dX12_runScript_100 hF (fun v2 hF => ?_)
    refine pf12_265 cx hP dX12_runScript_103 hF (fun s3 H locs hP hF => ?_)
    refine r_aload_n cx dX12_runScript_106 (lv_at hl 0 rfl) ?_
    refine r_aload_n cx dX12_runScript_107 (lv_at hl 0 rfl) ?_
    refine gf12_228 cx hP dX12_runScript_108 hF (fun v4 hF => ?_)
    refine pf12_31 cx hP dX12_runScript_111 hF (fun s5 H locs hP hF => ?_)
    refine r_aload_n cx dX12_runScript_114 (lv_at hl 0 rfl) ?_
    obtain ⟨v6, hc, hF⟩ := bnd_some hF
    refine r_callVi cx hP (As := []) (w12_good l Γ ad A s5 v6 hc) mw12_231 ⟨Nat.le_of_ble_eq_true rfl, Nat.le_of_ble_eq_true rfl⟩ (dMr (by decide)) rfl rfl rfl (Nat.le_of_ble_eq_true rfl) hl.1 ⟨Nat.zero_le _, Nat.zero_le _⟩ dX12_runScript_115 (fun H locs hP => ?_)
    refine r_if_ne cx 134 dX12_runScript_118 (by decide) hF (fun hF => ?_) (fun hF => ?_)
    · refine r_aload_n cx dX12_runScript_134 (lv_at hl 0 rfl) ?_
      refine r_aload_n cx dX12_runScript_135 (lv_at hl 0 rfl) ?_
      refine gf12_21 cx hP dX12_runScript_136 ?_
      obtain ⟨s7, hc, hF⟩ := bnd_some hF
      refine r_callVv cx hP (As := [.ref (ad 0 4)]) (w12_remember l Γ ad A 4 isW_4 s5 s7 hc) mw12_132 ⟨Nat.le_of_ble_eq_true rfl, Nat.le_of_ble_eq_true rfl⟩ (dMr (by decide)) rfl rfl rfl (Nat.le_of_ble_eq_true rfl) hl.1 ⟨Nat.zero_le _, Nat.zero_le _⟩ dX12_runScript_139 (fun H locs hP => ?_)
      refine r_aload_n cx dX12_runScript_142 (lv_at hl 0 rfl) ?_
      refine gf12_9 cx hP dX12_runScript_143 ?_
      refine r_iconst cx 2 dX12_runScript_146 (by decide) ?_
      refine r_iald cx hP (dMr (by decide)) rfl dX12_runScript_147 hF (fun v8 hF => ?_)
      exact r_iret cx hP hr hk dX12_runScript_148 hF
    · refine r_aload_n cx dX12_runScript_121 (lv_at hl 0 rfl) ?_
      refine gf12_21 cx hP dX12_runScript_122 ?_
      refine r_aload_n cx dX12_runScript_125 (lv_at hl 0 rfl) ?_
      refine gf12_9 cx hP dX12_runScript_126 ?_
      obtain ⟨s9, hc, hF⟩ := bnd_some hF
      refine r_callSv cx hP (As := [.ref (ad 0 4), .ref (ad 0 1)]) (w12_copy l Γ ad A 4 isW_4 1 isW_1 s5 s9 hc) mw12_69 ⟨Nat.le_of_ble_eq_true rfl, Nat.le_of_ble_eq_true rfl⟩ rfl (Nat.le_of_ble_eq_true rfl) hl.1 ⟨Nat.zero_le _, Nat.zero_le _⟩ dX12_runScript_129 (fun H locs hP => ?_)
      refine r_iconst cx (-1) dX12_runScript_132 (by decide) ?_
      exact r_iret cx hP hr hk dX12_runScript_133 hF
  have b68 : ∀ (fu : Nat) (σ : Sig) (H : Heap) (locs : List Loc) (ls : Array Slot), PS SM Γ ad A s σ H locs → lv_has ls 1 [(0, .ref (ad 0 0))] → f12_runScript_b68 fu σ = some (r, σ1) → W p l e (rmz 7 157) s m args below meth c H locs 0 0 (QI SM Γ ad A below args s r σ1) (F0 m 68 ls []) := by
    intro fu
    induction fu with
    | zero => intro σ H locs ls hP hl hF; exact nofu hF
    | succ fu ih =>
      intro σ H locs ls hP hl hF
      rw [f12_runScript_b68] at hF
      refine r_aload_n cx dX12_runScript_68 (lv_at hl 0 rfl) ?_
      obtain ⟨v10, hc, hF⟩ := bnd_some hF
      refine r_callVi cx hP (As := []) (w12_good l Γ ad A σ v10 hc) mw12_231 ⟨Nat.le_of_ble_eq_true rfl, Nat.le_of_ble_eq_true rfl⟩ (dMr (by decide)) rfl rfl rfl (Nat.le_of_ble_eq_true rfl) hl.1 ⟨Nat.zero_le _, Nat.zero_le _⟩ dX12_runScript_69 (fun H locs hP => ?_)
      refine r_if_eq cx 93 dX12_runScript_72 (by decide) hF (fun hF => ?_) (fun hF => ?_)
      · exact b93 σ _ _ _ hP (lv_sub hl [0] rfl) hF
      · refine r_aload_n cx dX12_runScript_75 (lv_at hl 0 rfl) ?_
        refine gf12_204 cx hP dX12_runScript_76 hF (fun v11 hF => ?_)
        refine r_if_eq cx 93 dX12_runScript_79 (by decide) hF (fun hF => ?_) (fun hF => ?_)
        · exact b93 σ _ _ _ hP (lv_sub hl [0] rfl) hF
        · refine r_aload_n cx dX12_runScript_82 (lv_at hl 0 rfl) ?_
          obtain ⟨s12, hc, hF⟩ := bnd_some hF
          refine r_callVv cx hP (As := []) (w12_command l Γ ad A σ s12 hc) mw12_262 ⟨Nat.le_of_ble_eq_true rfl, Nat.le_of_ble_eq_true rfl⟩ (dMr (by decide)) rfl rfl rfl (Nat.le_of_ble_eq_true rfl) hl.1 ⟨Nat.zero_le _, Nat.zero_le _⟩ dX12_runScript_83 (fun H locs hP => ?_)
          refine r_aload_n cx dX12_runScript_86 (lv_at hl 0 rfl) ?_
          obtain ⟨s13, hc, hF⟩ := bnd_some hF
          refine r_callVv cx hP (As := []) (w12_advance l Γ ad A s12 s13 hc) mw12_243 ⟨Nat.le_of_ble_eq_true rfl, Nat.le_of_ble_eq_true rfl⟩ (dMr (by decide)) rfl rfl rfl (Nat.le_of_ble_eq_true rfl) hl.1 ⟨Nat.zero_le _, Nat.zero_le _⟩ dX12_runScript_87 (fun H locs hP => ?_)
          refine r_goto cx 68 dX12_runScript_90 (by decide) ?_
          exact ih s13 _ _ _ hP (lv_sub hl [0] rfl) hF
  have b64 : ∀ (σ : Sig) (H : Heap) (locs : List Loc) (ls : Array Slot), PS SM Γ ad A s σ H locs → lv_has ls 1 [(0, .ref (ad 0 0))] → f12_runScript_b64 σ = some (r, σ1) → W p l e (rmz 7 157) s m args below meth c H locs 0 0 (QI SM Γ ad A below args s r σ1) (F0 m 64 ls []) := by
    intro σ H locs ls hP hl hF
    rw [f12_runScript_b64] at hF
    refine r_aload_n cx dX12_runScript_64 (lv_at hl 0 rfl) ?_
    obtain ⟨s14, hc, hF⟩ := bnd_some hF
    refine r_callVv cx hP (As := []) (w12_advance l Γ ad A σ s14 hc) mw12_243 ⟨Nat.le_of_ble_eq_true rfl, Nat.le_of_ble_eq_true rfl⟩ (dMr (by decide)) rfl rfl rfl (Nat.le_of_ble_eq_true rfl) hl.1 ⟨Nat.zero_le _, Nat.zero_le _⟩ dX12_runScript_65 (fun H locs hP => ?_)
    exact b68 FU s14 _ _ _ hP (lv_sub hl [0] rfl) hF
  have b49 : ∀ (σ : Sig) (H : Heap) (locs : List Loc) (ls : Array Slot), PS SM Γ ad A s σ H locs → lv_has ls 1 [(0, .ref (ad 0 0))] → f12_runScript_b49 σ = some (r, σ1) → W p l e (rmz 7 157) s m args below meth c H locs 0 0 (QI SM Γ ad A below args s r σ1) (F0 m 49 ls []) := by
    intro σ H locs ls hP hl hF
    rw [f12_runScript_b49] at hF
    refine r_aload_n cx dX12_runScript_49 (lv_at hl 0 rfl) ?_
    obtain ⟨s15, hc, hF⟩ := bnd_some hF
    refine r_callVv cx hP (As := []) (w12_advance l Γ ad A σ s15 hc) mw12_243 ⟨Nat.le_of_ble_eq_true rfl, Nat.le_of_ble_eq_true rfl⟩ (dMr (by decide)) rfl rfl rfl (Nat.le_of_ble_eq_true rfl) hl.1 ⟨Nat.zero_le _, Nat.zero_le _⟩ dX12_runScript_50 (fun H locs hP => ?_)
    refine r_aload_n cx dX12_runScript_53 (lv_at hl 0 rfl) ?_
    obtain ⟨v16, hc, hF⟩ := bnd_some hF
    refine r_callVi cx hP (As := []) (w12_good l Γ ad A s15 v16 hc) mw12_231 ⟨Nat.le_of_ble_eq_true rfl, Nat.le_of_ble_eq_true rfl⟩ (dMr (by decide)) rfl rfl rfl (Nat.le_of_ble_eq_true rfl) hl.1 ⟨Nat.zero_le _, Nat.zero_le _⟩ dX12_runScript_54 (fun H locs hP => ?_)
    refine r_if_eq cx 64 dX12_runScript_57 (by decide) hF (fun hF => ?_) (fun hF => ?_)
    · exact b64 s15 _ _ _ hP (lv_sub hl [0] rfl) hF
    · refine r_aload_n cx dX12_runScript_60 (lv_at hl 0 rfl) ?_
      obtain ⟨s17, hc, hF⟩ := bnd_some hF
      refine r_callVv cx hP (As := []) (w12_scents l Γ ad A s15 s17 hc) mw12_259 ⟨Nat.le_of_ble_eq_true rfl, Nat.le_of_ble_eq_true rfl⟩ (dMr (by decide)) rfl rfl rfl (Nat.le_of_ble_eq_true rfl) hl.1 ⟨Nat.zero_le _, Nat.zero_le _⟩ dX12_runScript_61 (fun H locs hP => ?_)
      exact b64 s17 _ _ _ hP (lv_sub hl [0] rfl) hF
  refine r_aload_n cx dX12_runScript_0 (lv_at hl 0 rfl) ?_
  refine r_iconst cx 0 dX12_runScript_1 (by decide) ?_
  refine pf12_63 cx hP dX12_runScript_2 hF (fun s18 H locs hP hF => ?_)
  refine r_aload_n cx dX12_runScript_5 (lv_at hl 0 rfl) ?_
  refine gf12_9 cx hP dX12_runScript_6 ?_
  refine r_aload_n cx dX12_runScript_9 (lv_at hl 0 rfl) ?_
  refine gf12_21 cx hP dX12_runScript_10 ?_
  obtain ⟨s19, hc, hF⟩ := bnd_some hF
  refine r_callSv cx hP (As := [.ref (ad 0 1), .ref (ad 0 4)]) (w12_copy l Γ ad A 1 isW_1 4 isW_4 s18 s19 hc) mw12_69 ⟨Nat.le_of_ble_eq_true rfl, Nat.le_of_ble_eq_true rfl⟩ rfl (Nat.le_of_ble_eq_true rfl) hl.1 ⟨Nat.zero_le _, Nat.zero_le _⟩ dX12_runScript_13 (fun H locs hP => ?_)
  refine r_aload_n cx dX12_runScript_16 (lv_at hl 0 rfl) ?_
  refine r_iconst cx 0 dX12_runScript_17 (by decide) ?_
  refine pf12_198 cx hP dX12_runScript_18 hF (fun s20 H locs hP hF => ?_)
  refine r_aload_n cx dX12_runScript_21 (lv_at hl 0 rfl) ?_
  refine r_iconst cx 0 dX12_runScript_22 (by decide) ?_
  refine pf12_216 cx hP dX12_runScript_23 hF (fun s21 H locs hP hF => ?_)
  refine r_aload_n cx dX12_runScript_26 (lv_at hl 0 rfl) ?_
  refine r_iconst cx (-1) dX12_runScript_27 (by decide) ?_
  refine pf12_228 cx hP dX12_runScript_28 hF (fun s22 H locs hP hF => ?_)
  refine r_aload_n cx dX12_runScript_31 (lv_at hl 0 rfl) ?_
  obtain ⟨s23, hc, hF⟩ := bnd_some hF
  refine r_callVv cx hP (As := []) (w12_scan l Γ ad A s22 s23 hc) mw12_234 ⟨Nat.le_of_ble_eq_true rfl, Nat.le_of_ble_eq_true rfl⟩ (dMr (by decide)) rfl rfl rfl (Nat.le_of_ble_eq_true rfl) hl.1 ⟨Nat.zero_le _, Nat.zero_le _⟩ dX12_runScript_32 (fun H locs hP => ?_)
  refine r_aload_n cx dX12_runScript_35 (lv_at hl 0 rfl) ?_
  refine r_ldc cx (k := 14) (by decide) (by decide) dX12_runScript_36 ?_
  obtain ⟨v24, hc, hF⟩ := bnd_some hF
  refine r_callVi cx hP (As := [.ref (Γ.2.2.1 14)]) (w12_isWord l Γ ad A 14 (by decide) s23 v24 hc) mw12_255 ⟨Nat.le_of_ble_eq_true rfl, Nat.le_of_ble_eq_true rfl⟩ (dMr (by decide)) rfl rfl rfl (Nat.le_of_ble_eq_true rfl) hl.1 ⟨Nat.zero_le _, Nat.zero_le _⟩ dX12_runScript_38 (fun H locs hP => ?_)
  refine r_if_ne cx 49 dX12_runScript_41 (by decide) hF (fun hF => ?_) (fun hF => ?_)
  · exact b49 s23 _ _ _ hP (lv_sub hl [0] rfl) hF
  · refine r_aload_n cx dX12_runScript_44 (lv_at hl 0 rfl) ?_
    refine r_iconst cx 1 dX12_runScript_45 (by decide) ?_
    obtain ⟨s25, hc, hF⟩ := bnd_some hF
    refine r_callVv cx hP (As := [.int 1]) (w12_fail l Γ ad A 1 s23 s25 hc) mw12_237 ⟨Nat.le_of_ble_eq_true rfl, Nat.le_of_ble_eq_true rfl⟩ (dMr (by decide)) rfl rfl rfl (Nat.le_of_ble_eq_true rfl) hl.1 ⟨Nat.zero_le _, Nat.zero_le _⟩ dX12_runScript_46 (fun H locs hP => ?_)
    exact b49 s25 _ _ _ hP (lv_sub hl [0] rfl) hF
set_option maxHeartbeats 4000000 in
set_option maxRecDepth 100000 in
theorem w12_type (l : Launch) (Γ : Wc) (ad : Nat → Nat → Nat) (A : Nat → Prop) (p1 : Int32) (σ : Sig) (σ1 : Sig) (hF : f12_type p1 σ = some σ1) : MV l SM Γ ad A yX12_type cX12_type 3 0 0 [.ref (ad 0 0), .int p1] σ σ1 := by
  refine MV.of (by decide) (Nat.le_of_ble_eq_true rfl) ?_
  intro p e s m args below meth c ls cx hr hk hP hl
  have hl : lv_has ls 3 [(0, .ref (ad 0 0)), (1, .int p1)] := hl
  rw [f12_type] at hF
  generalize hH0 : s.heap = H0 at hP ⊢
  generalize ([] : List Loc) = locs0 at hP ⊢
  clear hH0
  have b3 : ∀ (fu : Nat) (x1 : Int32) (x2 : Int32) (σ : Sig) (H : Heap) (locs : List Loc) (ls : Array Slot), PS SM Γ ad A s σ H locs → lv_has ls 3 [(0, .ref (ad 0 0)), (1, .int x1), (2, .int x2)] → f12_type_b3 fu x1 x2 σ = some σ1 → W p l e (rmz 0 0) s m args below meth c H locs 0 0 (QV SM Γ ad A below args s σ1) (F0 m 3 ls []) := by
    intro fu
    induction fu with
    | zero => intro x1 x2 σ H locs ls hP hl hF; exact nofu hF
    | succ fu ih =>
      intro x1 x2 σ H locs ls hP hl hF
      rw [f12_type_b3] at hF
      refine r_iload_n cx dX12_type_3 (lv_at hl 2 rfl) ?_
      refine r_if_lt cx 39 dX12_type_4 (by decide) hF (fun hF => ?_) (fun hF => ?_)
      · exact r_vret cx hP hr hk dX12_type_39 hF
      · refine r_aload_n cx dX12_type_7 (lv_at hl 0 rfl) ?_
        refine gf12_24 cx hP dX12_type_8 ?_
        refine r_aload_n cx dX12_type_11 (lv_at hl 0 rfl) ?_
        refine gf12_195 cx hP dX12_type_12 hF (fun v1 hF => ?_)
        refine r_iload_n cx dX12_type_15 (lv_at hl 1 rfl) ?_
        refine r_iload_n cx dX12_type_16 (lv_at hl 2 rfl) ?_
        refine r_iushr cx dX12_type_17 hF (fun v2 hF => ?_)
        refine r_sipush cx 255 dX12_type_18 (by decide) ?_
        refine r_iand cx dX12_type_21 hF (fun v3 hF => ?_)
        refine r_iast cx hP (dMr (by decide)) (fun _ => rfl) dX12_type_22 hF (fun s4 H locs hP hF => ?_)
        refine r_aload_n cx dX12_type_23 (lv_at hl 0 rfl) ?_
        refine r_dup cx dX12_type_24 rfl ?_
        refine gf12_195 cx hP dX12_type_25 hF (fun v5 hF => ?_)
        refine r_iconst cx 1 dX12_type_28 (by decide) ?_
        refine r_iadd cx dX12_type_29 hF (fun v6 hF => ?_)
        refine pf12_195 cx hP dX12_type_30 hF (fun s7 H locs hP hF => ?_)
        refine r_iinc cx (k := 2) (w := (-8)) (fun v8 => [(2, .int v8), (0, .ref (ad 0 0)), (1, .int x1)]) dX12_type_33 hl rfl (by decide) (by decide) hF (fun _ => rfl) (fun v8 ls hF hl => ?_)
        refine r_goto cx 3 dX12_type_36 (by decide) ?_
        exact ih x1 v8 s7 _ _ _ hP (lv_sub hl [1, 2, 0] rfl) hF
  refine r_bipush cx 24 dX12_type_0 (by decide) ?_
  refine r_istore_n cx [(2, .int 24), (0, .ref (ad 0 0)), (1, .int p1)] dX12_type_2 hl (by decide) rfl (fun ls hl => ?_)
  exact b3 FU p1 24 σ _ _ _ hP (lv_sub hl [1, 2, 0] rfl) hF
set_option maxHeartbeats 4000000 in
set_option maxRecDepth 100000 in
theorem w12_append (l : Launch) (Γ : Wc) (ad : Nat → Nat → Nat) (A : Nat → Prop) (p1 : Int32) (p2 : Int32) (p3 : Int32) (p4 : Int32) (p5 : Int32) (σ : Sig) (r : Int32) (σ1 : Sig) (hF : f12_append p1 p2 p3 p4 p5 σ = some (r, σ1)) : MI l SM Γ ad A yX12_append cX12_append 6 (some .int) 1 22 [.ref (ad 0 0), .int p1, .int p2, .int p3, .int p4, .int p5] σ r σ1 := by
  refine MI.of (by decide) (Nat.le_of_ble_eq_true rfl) ?_
  intro p e s m args below meth c ls cx hr hk hP hl
  have hl : lv_has ls 6 [(0, .ref (ad 0 0)), (1, .int p1), (2, .int p2), (3, .int p3), (4, .int p4), (5, .int p5)] := hl
  rw [f12_append] at hF
  refine r_aload_n cx dX12_append_0 (lv_at hl 0 rfl) ?_
  refine r_iconst cx 0 dX12_append_1 (by decide) ?_
  refine pf12_63 cx hP dX12_append_2 hF (fun s1 H locs hP hF => ?_)
  refine r_aload_n cx dX12_append_5 (lv_at hl 0 rfl) ?_
  refine gf12_195 cx hP dX12_append_6 hF (fun v2 hF => ?_)
  refine r_bipush cx 20 dX12_append_9 (by decide) ?_
  refine r_iadd cx dX12_append_11 hF (fun v3 hF => ?_)
  refine r_sipush cx 500 dX12_append_12 (by decide) ?_
  refine r_icmp_le cx 21 dX12_append_15 (by decide) hF (fun hF => ?_) (fun hF => ?_)
  · refine r_aload_n cx dX12_append_21 (lv_at hl 0 rfl) ?_
    refine r_iload_n cx dX12_append_22 (lv_at hl 1 rfl) ?_
    obtain ⟨s4, hc, hF⟩ := bnd_some hF
    refine r_callVv cx hP (As := [.int p1]) (w12_type l Γ ad A p1 s1 s4 hc) mw12_305 ⟨Nat.le_of_ble_eq_true rfl, Nat.le_of_ble_eq_true rfl⟩ (dMr (by decide)) rfl rfl rfl (Nat.le_of_ble_eq_true rfl) hl.1 ⟨Nat.zero_le _, Nat.zero_le _⟩ dX12_append_23 (fun H locs hP => ?_)
    refine r_aload_n cx dX12_append_26 (lv_at hl 0 rfl) ?_
    refine r_iload_n cx dX12_append_27 (lv_at hl 2 rfl) ?_
    obtain ⟨s5, hc, hF⟩ := bnd_some hF
    refine r_callVv cx hP (As := [.int p2]) (w12_type l Γ ad A p2 s4 s5 hc) mw12_305 ⟨Nat.le_of_ble_eq_true rfl, Nat.le_of_ble_eq_true rfl⟩ (dMr (by decide)) rfl rfl rfl (Nat.le_of_ble_eq_true rfl) hl.1 ⟨Nat.zero_le _, Nat.zero_le _⟩ dX12_append_28 (fun H locs hP => ?_)
    refine r_aload_n cx dX12_append_31 (lv_at hl 0 rfl) ?_
    refine r_iload_n cx dX12_append_32 (lv_at hl 3 rfl) ?_
    obtain ⟨s6, hc, hF⟩ := bnd_some hF
    refine r_callVv cx hP (As := [.int p3]) (w12_type l Γ ad A p3 s5 s6 hc) mw12_305 ⟨Nat.le_of_ble_eq_true rfl, Nat.le_of_ble_eq_true rfl⟩ (dMr (by decide)) rfl rfl rfl (Nat.le_of_ble_eq_true rfl) hl.1 ⟨Nat.zero_le _, Nat.zero_le _⟩ dX12_append_33 (fun H locs hP => ?_)
    refine r_aload_n cx dX12_append_36 (lv_at hl 0 rfl) ?_
    refine r_iload cx dX12_append_37 (lv_at hl 4 rfl) ?_
    obtain ⟨s7, hc, hF⟩ := bnd_some hF
    refine r_callVv cx hP (As := [.int p4]) (w12_type l Γ ad A p4 s6 s7 hc) mw12_305 ⟨Nat.le_of_ble_eq_true rfl, Nat.le_of_ble_eq_true rfl⟩ (dMr (by decide)) rfl rfl rfl (Nat.le_of_ble_eq_true rfl) hl.1 ⟨Nat.zero_le _, Nat.zero_le _⟩ dX12_append_39 (fun H locs hP => ?_)
    refine r_aload_n cx dX12_append_42 (lv_at hl 0 rfl) ?_
    refine r_iload cx dX12_append_43 (lv_at hl 5 rfl) ?_
    obtain ⟨s8, hc, hF⟩ := bnd_some hF
    refine r_callVv cx hP (As := [.int p5]) (w12_type l Γ ad A p5 s7 s8 hc) mw12_305 ⟨Nat.le_of_ble_eq_true rfl, Nat.le_of_ble_eq_true rfl⟩ (dMr (by decide)) rfl rfl rfl (Nat.le_of_ble_eq_true rfl) hl.1 ⟨Nat.zero_le _, Nat.zero_le _⟩ dX12_append_45 (fun H locs hP => ?_)
    refine r_aload_n cx dX12_append_48 (lv_at hl 0 rfl) ?_
    refine gf12_195 cx hP dX12_append_49 hF (fun v9 hF => ?_)
    exact r_iret cx hP hr hk dX12_append_52 hF
  · refine r_bipush cx (-2) dX12_append_18 (by decide) ?_
    exact r_iret cx hP hr hk dX12_append_20 hF
set_option maxHeartbeats 4000000 in
set_option maxRecDepth 100000 in
theorem w12_truncateInput (l : Launch) (Γ : Wc) (ad : Nat → Nat → Nat) (A : Nat → Prop) (p1 : Int32) (σ : Sig) (r : Int32) (σ1 : Sig) (hF : f12_truncateInput p1 σ = some (r, σ1)) : MI l SM Γ ad A yX12_truncateInput cX12_truncateInput 2 (some .int) 1 24 [.ref (ad 0 0), .int p1] σ r σ1 := by
  refine MI.of (by decide) (Nat.le_of_ble_eq_true rfl) ?_
  intro p e s m args below meth c ls cx hr hk hP hl
  have hl : lv_has ls 2 [(0, .ref (ad 0 0)), (1, .int p1)] := hl
  rw [f12_truncateInput] at hF
  refine r_aload_n cx dX12_truncateInput_0 (lv_at hl 0 rfl) ?_
  refine r_iconst cx 0 dX12_truncateInput_1 (by decide) ?_
  refine pf12_63 cx hP dX12_truncateInput_2 hF (fun s1 H locs hP hF => ?_)
  refine r_aload_n cx dX12_truncateInput_5 (lv_at hl 0 rfl) ?_
  refine r_iload_n cx dX12_truncateInput_6 (lv_at hl 1 rfl) ?_
  refine r_iconst cx 0 dX12_truncateInput_7 (by decide) ?_
  refine r_aload_n cx dX12_truncateInput_8 (lv_at hl 0 rfl) ?_
  refine gf12_195 cx hP dX12_truncateInput_9 hF (fun v2 hF => ?_)
  refine r_iconst cx 1 dX12_truncateInput_12 (by decide) ?_
  obtain ⟨v3, s4, hc, hF⟩ := bns_some hF
  refine r_callVi cx hP (As := [.int p1, .int 0, .int v2, .int 1]) (w12_outside l Γ ad A p1 0 v2 1 s1 v3 s4 hc) mw12_73 ⟨Nat.le_of_ble_eq_true rfl, Nat.le_of_ble_eq_true rfl⟩ (dMr (by decide)) rfl rfl rfl (Nat.le_of_ble_eq_true rfl) hl.1 ⟨Nat.zero_le _, Nat.zero_le _⟩ dX12_truncateInput_13 (fun H locs hP => ?_)
  refine r_if_eq cx 21 dX12_truncateInput_16 (by decide) hF (fun hF => ?_) (fun hF => ?_)
  · refine r_aload_n cx dX12_truncateInput_21 (lv_at hl 0 rfl) ?_
    refine r_iload_n cx dX12_truncateInput_22 (lv_at hl 1 rfl) ?_
    refine pf12_195 cx hP dX12_truncateInput_23 hF (fun s5 H locs hP hF => ?_)
    refine r_aload_n cx dX12_truncateInput_26 (lv_at hl 0 rfl) ?_
    refine gf12_195 cx hP dX12_truncateInput_27 hF (fun v6 hF => ?_)
    exact r_iret cx hP hr hk dX12_truncateInput_30 hF
  · refine r_iconst cx 0 dX12_truncateInput_19 (by decide) ?_
    exact r_iret cx hP hr hk dX12_truncateInput_20 hF
set_option maxHeartbeats 4000000 in
set_option maxRecDepth 100000 in
theorem w12_scriptErrorKind (l : Launch) (Γ : Wc) (ad : Nat → Nat → Nat) (A : Nat → Prop)  (σ : Sig) (r : Int32) (σ1 : Sig) (hF : f12_scriptErrorKind  σ = some (r, σ1)) : MI l SM Γ ad A yX12_scriptErrorKind cX12_scriptErrorKind 1 (some .int) 0 0 [.ref (ad 0 0)] σ r σ1 := by
  refine MI.of (by decide) (Nat.le_of_ble_eq_true rfl) ?_
  intro p e s m args below meth c ls cx hr hk hP hl
  have hl : lv_has ls 1 [(0, .ref (ad 0 0))] := hl
  rw [f12_scriptErrorKind] at hF
  refine r_aload_n cx dX12_scriptErrorKind_0 (lv_at hl 0 rfl) ?_
  refine r_iconst cx 0 dX12_scriptErrorKind_1 (by decide) ?_
  refine pf12_63 cx hP dX12_scriptErrorKind_2 hF (fun s1 H locs hP hF => ?_)
  refine r_aload_n cx dX12_scriptErrorKind_5 (lv_at hl 0 rfl) ?_
  refine gf12_265 cx hP dX12_scriptErrorKind_6 hF (fun v2 hF => ?_)
  exact r_iret cx hP hr hk dX12_scriptErrorKind_9 hF
set_option maxHeartbeats 4000000 in
set_option maxRecDepth 100000 in
theorem w12_scriptErrorOffset (l : Launch) (Γ : Wc) (ad : Nat → Nat → Nat) (A : Nat → Prop)  (σ : Sig) (r : Int32) (σ1 : Sig) (hF : f12_scriptErrorOffset  σ = some (r, σ1)) : MI l SM Γ ad A yX12_scriptErrorOffset cX12_scriptErrorOffset 1 (some .int) 0 0 [.ref (ad 0 0)] σ r σ1 := by
  refine MI.of (by decide) (Nat.le_of_ble_eq_true rfl) ?_
  intro p e s m args below meth c ls cx hr hk hP hl
  have hl : lv_has ls 1 [(0, .ref (ad 0 0))] := hl
  rw [f12_scriptErrorOffset] at hF
  refine r_aload_n cx dX12_scriptErrorOffset_0 (lv_at hl 0 rfl) ?_
  refine r_iconst cx 0 dX12_scriptErrorOffset_1 (by decide) ?_
  refine pf12_63 cx hP dX12_scriptErrorOffset_2 hF (fun s1 H locs hP hF => ?_)
  refine r_aload_n cx dX12_scriptErrorOffset_5 (lv_at hl 0 rfl) ?_
  refine gf12_31 cx hP dX12_scriptErrorOffset_6 hF (fun v2 hF => ?_)
  exact r_iret cx hP hr hk dX12_scriptErrorOffset_9 hF
set_option maxHeartbeats 4000000 in
set_option maxRecDepth 100000 in
theorem w12_told (l : Launch) (Γ : Wc) (ad : Nat → Nat → Nat) (A : Nat → Prop) (p1 : Int32) (σ : Sig) (r : Int32) (σ1 : Sig) (hF : f12_told p1 σ = some (r, σ1)) : MI l SM Γ ad A yX12_told cX12_told 2 (some .int) 0 0 [.ref (ad 0 0), .int p1] σ r σ1 := by
  refine MI.of (by decide) (Nat.le_of_ble_eq_true rfl) ?_
  intro p e s m args below meth c ls cx hr hk hP hl
  have hl : lv_has ls 2 [(0, .ref (ad 0 0)), (1, .int p1)] := hl
  rw [f12_told] at hF
  refine r_aload_n cx dX12_told_0 (lv_at hl 0 rfl) ?_
  refine r_iconst cx 0 dX12_told_1 (by decide) ?_
  refine pf12_63 cx hP dX12_told_2 hF (fun s1 H locs hP hF => ?_)
  refine r_aload_n cx dX12_told_5 (lv_at hl 0 rfl) ?_
  refine gf12_9 cx hP dX12_told_6 ?_
  refine r_iload_n cx dX12_told_9 (lv_at hl 1 rfl) ?_
  refine r_iald cx hP (dMr (by decide)) rfl dX12_told_10 hF (fun v2 hF => ?_)
  exact r_iret cx hP hr hk dX12_told_11 hF
set_option maxHeartbeats 4000000 in
set_option maxRecDepth 100000 in
theorem w12_time (l : Launch) (Γ : Wc) (ad : Nat → Nat → Nat) (A : Nat → Prop)  (σ : Sig) (r : Int32) (σ1 : Sig) (hF : f12_time  σ = some (r, σ1)) : MI l SM Γ ad A yX12_time cX12_time 1 (some .int) 1 21 [.ref (ad 0 0)] σ r σ1 := by
  refine MI.of (by decide) (Nat.le_of_ble_eq_true rfl) ?_
  intro p e s m args below meth c ls cx hr hk hP hl
  have hl : lv_has ls 1 [(0, .ref (ad 0 0))] := hl
  rw [f12_time] at hF
  refine r_aload_n cx dX12_time_0 (lv_at hl 0 rfl) ?_
  refine r_iconst cx 4 dX12_time_1 (by decide) ?_
  obtain ⟨v1, s2, hc, hF⟩ := bns_some hF
  refine r_callVi cx hP (As := [.int 4]) (w12_told l Γ ad A 4 σ v1 s2 hc) mw12_308 ⟨Nat.le_of_ble_eq_true rfl, Nat.le_of_ble_eq_true rfl⟩ (dMr (by decide)) rfl rfl rfl (Nat.le_of_ble_eq_true rfl) hl.1 ⟨Nat.zero_le _, Nat.zero_le _⟩ dX12_time_2 (fun H locs hP => ?_)
  exact r_iret cx hP hr hk dX12_time_5 hF
set_option maxHeartbeats 4000000 in
set_option maxRecDepth 100000 in
theorem w12_day (l : Launch) (Γ : Wc) (ad : Nat → Nat → Nat) (A : Nat → Prop)  (σ : Sig) (r : Int32) (σ1 : Sig) (hF : f12_day  σ = some (r, σ1)) : MI l SM Γ ad A yX12_day cX12_day 1 (some .int) 1 20 [.ref (ad 0 0)] σ r σ1 := by
  refine MI.of (by decide) (Nat.le_of_ble_eq_true rfl) ?_
  intro p e s m args below meth c ls cx hr hk hP hl
  have hl : lv_has ls 1 [(0, .ref (ad 0 0))] := hl
  rw [f12_day] at hF
  refine r_aload_n cx dX12_day_0 (lv_at hl 0 rfl) ?_
  refine r_iconst cx 0 dX12_day_1 (by decide) ?_
  refine pf12_63 cx hP dX12_day_2 hF (fun s1 H locs hP hF => ?_)
  refine r_aload_n cx dX12_day_5 (lv_at hl 0 rfl) ?_
  obtain ⟨v2, hc, hF⟩ := bnd_some hF
  refine r_callVi cx hP (As := []) (w12_today l Γ ad A s1 v2 hc) mw12_81 ⟨Nat.le_of_ble_eq_true rfl, Nat.le_of_ble_eq_true rfl⟩ (dMr (by decide)) rfl rfl rfl (Nat.le_of_ble_eq_true rfl) hl.1 ⟨Nat.zero_le _, Nat.zero_le _⟩ dX12_day_6 (fun H locs hP => ?_)
  exact r_iret cx hP hr hk dX12_day_9 hF
set_option maxHeartbeats 4000000 in
set_option maxRecDepth 100000 in
theorem w12_isOpen (l : Launch) (Γ : Wc) (ad : Nat → Nat → Nat) (A : Nat → Prop)  (σ : Sig) (r : Int32) (σ1 : Sig) (hF : f12_isOpen  σ = some (r, σ1)) : MI l SM Γ ad A yX12_isOpen cX12_isOpen 1 (some .boolean) 1 22 [.ref (ad 0 0)] σ r σ1 := by
  refine MI.of (by decide) (Nat.le_of_ble_eq_true rfl) ?_
  intro p e s m args below meth c ls cx hr hk hP hl
  have hl : lv_has ls 1 [(0, .ref (ad 0 0))] := hl
  rw [f12_isOpen] at hF
  refine r_aload_n cx dX12_isOpen_0 (lv_at hl 0 rfl) ?_
  refine r_iconst cx 0 dX12_isOpen_1 (by decide) ?_
  refine pf12_63 cx hP dX12_isOpen_2 hF (fun s1 H locs hP hF => ?_)
  refine r_aload_n cx dX12_isOpen_5 (lv_at hl 0 rfl) ?_
  refine r_aload_n cx dX12_isOpen_6 (lv_at hl 0 rfl) ?_
  refine gf12_9 cx hP dX12_isOpen_7 ?_
  refine r_iconst cx 4 dX12_isOpen_10 (by decide) ?_
  refine r_iald cx hP (dMr (by decide)) rfl dX12_isOpen_11 hF (fun v2 hF => ?_)
  refine r_bipush cx 96 dX12_isOpen_12 (by decide) ?_
  refine r_irem cx dX12_isOpen_14 hF (fun v3 hF => ?_)
  obtain ⟨v4, hc, hF⟩ := bnd_some hF
  refine r_callVi cx hP (As := [.int v3]) (w12_openAt l Γ ad A v3 s1 v4 hc) mw12_77 ⟨Nat.le_of_ble_eq_true rfl, Nat.le_of_ble_eq_true rfl⟩ (dMr (by decide)) rfl rfl rfl (Nat.le_of_ble_eq_true rfl) hl.1 ⟨Nat.zero_le _, Nat.zero_le _⟩ dX12_isOpen_15 (fun H locs hP => ?_)
  exact r_zret cx hP hr hk (nar_gz (gz_some hF).1) dX12_isOpen_18 (gz_some hF).2
set_option maxHeartbeats 4000000 in
set_option maxRecDepth 100000 in
theorem w12_ticksUntilOpen (l : Launch) (Γ : Wc) (ad : Nat → Nat → Nat) (A : Nat → Prop)  (σ : Sig) (r : Int32) (σ1 : Sig) (hF : f12_ticksUntilOpen  σ = some (r, σ1)) : MI l SM Γ ad A yX12_ticksUntilOpen cX12_ticksUntilOpen 2 (some .int) 1 22 [.ref (ad 0 0)] σ r σ1 := by
  refine MI.of (by decide) (Nat.le_of_ble_eq_true rfl) ?_
  intro p e s m args below meth c ls cx hr hk hP hl
  have hl : lv_has ls 2 [(0, .ref (ad 0 0))] := hl
  rw [f12_ticksUntilOpen] at hF
  generalize hH0 : s.heap = H0 at hP ⊢
  generalize ([] : List Loc) = locs0 at hP ⊢
  clear hH0
  have b7 : ∀ (fu : Nat) (x1 : Int32) (σ : Sig) (H : Heap) (locs : List Loc) (ls : Array Slot), PS SM Γ ad A s σ H locs → lv_has ls 2 [(0, .ref (ad 0 0)), (1, .int x1)] → f12_ticksUntilOpen_b7 fu x1 σ = some (r, σ1) → W p l e (rmz 1 22) s m args below meth c H locs 0 0 (QI SM Γ ad A below args s r σ1) (F0 m 7 ls []) := by
    intro fu
    induction fu with
    | zero => intro x1 σ H locs ls hP hl hF; exact nofu hF
    | succ fu ih =>
      intro x1 σ H locs ls hP hl hF
      rw [f12_ticksUntilOpen_b7] at hF
      refine r_iload_n cx dX12_ticksUntilOpen_7 (lv_at hl 1 rfl) ?_
      refine r_bipush cx 96 dX12_ticksUntilOpen_8 (by decide) ?_
      refine r_icmp_ge cx 39 dX12_ticksUntilOpen_10 (by decide) hF (fun hF => ?_) (fun hF => ?_)
      · refine r_iconst cx (-1) dX12_ticksUntilOpen_39 (by decide) ?_
        exact r_iret cx hP hr hk dX12_ticksUntilOpen_40 hF
      · refine r_aload_n cx dX12_ticksUntilOpen_13 (lv_at hl 0 rfl) ?_
        refine r_aload_n cx dX12_ticksUntilOpen_14 (lv_at hl 0 rfl) ?_
        refine gf12_9 cx hP dX12_ticksUntilOpen_15 ?_
        refine r_iconst cx 4 dX12_ticksUntilOpen_18 (by decide) ?_
        refine r_iald cx hP (dMr (by decide)) rfl dX12_ticksUntilOpen_19 hF (fun v1 hF => ?_)
        refine r_iload_n cx dX12_ticksUntilOpen_20 (lv_at hl 1 rfl) ?_
        refine r_iadd cx dX12_ticksUntilOpen_21 hF (fun v2 hF => ?_)
        refine r_bipush cx 96 dX12_ticksUntilOpen_22 (by decide) ?_
        refine r_irem cx dX12_ticksUntilOpen_24 hF (fun v3 hF => ?_)
        obtain ⟨v4, hc, hF⟩ := bnd_some hF
        refine r_callVi cx hP (As := [.int v3]) (w12_openAt l Γ ad A v3 σ v4 hc) mw12_77 ⟨Nat.le_of_ble_eq_true rfl, Nat.le_of_ble_eq_true rfl⟩ (dMr (by decide)) rfl rfl rfl (Nat.le_of_ble_eq_true rfl) hl.1 ⟨Nat.zero_le _, Nat.zero_le _⟩ dX12_ticksUntilOpen_25 (fun H locs hP => ?_)
        refine r_if_eq cx 33 dX12_ticksUntilOpen_28 (by decide) hF (fun hF => ?_) (fun hF => ?_)
        · refine r_iinc cx (k := 1) (w := 1) (fun v5 => [(1, .int v5), (0, .ref (ad 0 0))]) dX12_ticksUntilOpen_33 hl rfl (by decide) (by decide) hF (fun _ => rfl) (fun v5 ls hF hl => ?_)
          refine r_goto cx 7 dX12_ticksUntilOpen_36 (by decide) ?_
          exact ih v5 σ _ _ _ hP (lv_sub hl [1, 0] rfl) hF
        · refine r_iload_n cx dX12_ticksUntilOpen_31 (lv_at hl 1 rfl) ?_
          exact r_iret cx hP hr hk dX12_ticksUntilOpen_32 hF
  refine r_aload_n cx dX12_ticksUntilOpen_0 (lv_at hl 0 rfl) ?_
  refine r_iconst cx 0 dX12_ticksUntilOpen_1 (by decide) ?_
  refine pf12_63 cx hP dX12_ticksUntilOpen_2 hF (fun s6 H locs hP hF => ?_)
  refine r_iconst cx 0 dX12_ticksUntilOpen_5 (by decide) ?_
  refine r_istore_n cx [(1, .int 0), (0, .ref (ad 0 0))] dX12_ticksUntilOpen_6 hl (by decide) rfl (fun ls hl => ?_)
  exact b7 FU 0 s6 _ _ _ hP (lv_sub hl [1, 0] rfl) hF
