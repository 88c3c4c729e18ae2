/-! printed: the walks -/
set_option maxHeartbeats 4000000 in
set_option maxRecDepth 100000 in
theorem w6_addWord (l : Launch) (Γ : Wc) (ad : Nat → Nat → Nat) (A : Nat → Prop) (p1 : Int32) (σ : Sig) (σ1 : Sig) (hF : f6_addWord p1 σ = some σ1) : MV l SX Γ ad A yX6_addWord cX6_addWord 3 0 0 [.ref (ad 0 4), .int p1] σ σ1 := by
  refine MV.of (by decide) (Nat.le_of_ble_eq_true rfl) ?_
  intro p e s m args below meth c ls cx hr hk hP hl
  have hl : lv_has ls 3 [(0, .ref (ad 0 4)), (1, .int p1)] := hl
  rw [f6_addWord] at hF
  generalize hH0 : s.heap = H0 at hP ⊢
  generalize ([] : List Loc) = locs0 at hP ⊢
  clear hH0
  have b3 : ∀ (fu : Nat) (x1 : Int32) (x2 : Int32) (σ : Sig) (H : Heap) (locs : List Loc) (ls : Array Slot), PS SX Γ ad A s σ H locs → lv_has ls 3 [(0, .ref (ad 0 4)), (1, .int x1), (2, .int x2)] → f6_addWord_b3 fu x1 x2 σ = some σ1 → W p l e (rmz 0 0) s m args below meth c H locs 0 0 (QV SX Γ ad A below args s σ1) (F0 m 3 ls []) := by
    intro fu
    induction fu with
    | zero => intro x1 x2 σ H locs ls hP hl hF; exact nofu hF
    | succ fu ih =>
      intro x1 x2 σ H locs ls hP hl hF
      rw [f6_addWord_b3] at hF
      refine r_iload_n cx dX6_addWord_3 (lv_at hl 2 rfl) ?_
      refine r_if_lt cx 46 dX6_addWord_4 (by decide) hF (fun hF => ?_) (fun hF => ?_)
      · exact r_vret cx hP hr hk dX6_addWord_46 hF
      · refine r_aload_n cx dX6_addWord_7 (lv_at hl 0 rfl) ?_
        refine gf6_27 cx hP dX6_addWord_8 hF (fun v1 hF => ?_)
        refine r_sipush cx 500 dX6_addWord_11 (by decide) ?_
        refine r_icmp_ge cx 46 dX6_addWord_14 (by decide) hF (fun hF => ?_) (fun hF => ?_)
        · exact r_vret cx hP hr hk dX6_addWord_46 hF
        · refine r_aload_n cx dX6_addWord_17 (lv_at hl 0 rfl) ?_
          refine gf6_9 cx hP dX6_addWord_18 ?_
          refine r_aload_n cx dX6_addWord_21 (lv_at hl 0 rfl) ?_
          refine gf6_27 cx hP dX6_addWord_22 hF (fun v2 hF => ?_)
          refine r_iload_n cx dX6_addWord_25 (lv_at hl 1 rfl) ?_
          refine r_iload_n cx dX6_addWord_26 (lv_at hl 2 rfl) ?_
          refine r_iushr cx dX6_addWord_27 hF (fun v3 hF => ?_)
          refine r_i2b cx dX6_addWord_28 hF (fun v4 hF => ?_)
          refine r_bast cx hP (dXr (by decide)) (fun _ => rfl) dX6_addWord_29 hF (fun s5 H locs hP hF => ?_)
          refine r_aload_n cx dX6_addWord_30 (lv_at hl 0 rfl) ?_
          refine r_dup cx dX6_addWord_31 rfl ?_
          refine gf6_27 cx hP dX6_addWord_32 hF (fun v6 hF => ?_)
          refine r_iconst cx 1 dX6_addWord_35 (by decide) ?_
          refine r_iadd cx dX6_addWord_36 hF (fun v7 hF => ?_)
          refine pf6_27 cx hP dX6_addWord_37 hF (fun s8 H locs hP hF => ?_)
          refine r_iinc cx (k := 2) (w := (-8)) (fun v9 => [(2, .int v9), (0, .ref (ad 0 4)), (1, .int x1)]) dX6_addWord_40 hl rfl (by decide) (by decide) hF (fun _ => rfl) (fun v9 ls hF hl => ?_)
          refine r_goto cx 3 dX6_addWord_43 (by decide) ?_
          exact ih x1 v9 s8 _ _ _ hP (lv_sub hl [1, 2, 0] rfl) hF
  refine r_bipush cx 24 dX6_addWord_0 (by decide) ?_
  refine r_istore_n cx [(2, .int 24), (0, .ref (ad 0 4)), (1, .int p1)] dX6_addWord_2 hl (by decide) rfl (fun ls hl => ?_)
  exact b3 FU p1 24 σ _ _ _ hP (lv_sub hl [1, 2, 0] rfl) hF
set_option maxHeartbeats 4000000 in
set_option maxRecDepth 100000 in
theorem w11_append (l : Launch) (Γ : Wc) (ad : Nat → Nat → Nat) (A : Nat → Prop) (p1 : Int32) (p2 : Int32) (p3 : Int32) (p4 : Int32) (p5 : Int32) (σ : Sig) (r : Int32) (σ1 : Sig) (hF : f11_append p1 p2 p3 p4 p5 σ = some (r, σ1)) : MI l SX Γ ad A yX11_append cX11_append 6 (some .int) 1 22 [.ref (ad 0 0), .int p1, .int p2, .int p3, .int p4, .int p5] σ r σ1 := by
  refine MI.of (by decide) (Nat.le_of_ble_eq_true rfl) ?_
  intro p e s m args below meth c ls cx hr hk hP hl
  have hl : lv_has ls 6 [(0, .ref (ad 0 0)), (1, .int p1), (2, .int p2), (3, .int p3), (4, .int p4), (5, .int p5)] := hl
  rw [f11_append] at hF
  refine r_aload_n cx dX11_append_0 (lv_at hl 0 rfl) ?_
  refine gf11_37 cx hP dX11_append_1 ?_
  refine gf11_56 cx hP dX11_append_4 hF (fun v1 hF => ?_)
  refine r_bipush cx 20 dX11_append_7 (by decide) ?_
  refine r_iadd cx dX11_append_9 hF (fun v2 hF => ?_)
  refine r_sipush cx 500 dX11_append_10 (by decide) ?_
  refine r_icmp_le cx 19 dX11_append_13 (by decide) hF (fun hF => ?_) (fun hF => ?_)
  · refine r_aload_n cx dX11_append_19 (lv_at hl 0 rfl) ?_
    refine gf11_37 cx hP dX11_append_20 ?_
    refine r_iload_n cx dX11_append_23 (lv_at hl 1 rfl) ?_
    obtain ⟨s3, hc, hF⟩ := bnd_some hF
    refine r_callVv cx hP (As := [.int p1]) (w6_addWord l Γ ad A p1 σ s3 hc) mw11_65 ⟨Nat.le_of_ble_eq_true rfl, Nat.le_of_ble_eq_true rfl⟩ (dXr (by decide)) rfl rfl rfl (Nat.le_of_ble_eq_true rfl) hl.1 ⟨Nat.zero_le _, Nat.zero_le _⟩ dX11_append_24 (fun H locs hP => ?_)
    refine r_aload_n cx dX11_append_27 (lv_at hl 0 rfl) ?_
    refine gf11_37 cx hP dX11_append_28 ?_
    refine r_iload_n cx dX11_append_31 (lv_at hl 2 rfl) ?_
    obtain ⟨s4, hc, hF⟩ := bnd_some hF
    refine r_callVv cx hP (As := [.int p2]) (w6_addWord l Γ ad A p2 s3 s4 hc) mw11_65 ⟨Nat.le_of_ble_eq_true rfl, Nat.le_of_ble_eq_true rfl⟩ (dXr (by decide)) rfl rfl rfl (Nat.le_of_ble_eq_true rfl) hl.1 ⟨Nat.zero_le _, Nat.zero_le _⟩ dX11_append_32 (fun H locs hP => ?_)
    refine r_aload_n cx dX11_append_35 (lv_at hl 0 rfl) ?_
    refine gf11_37 cx hP dX11_append_36 ?_
    refine r_iload_n cx dX11_append_39 (lv_at hl 3 rfl) ?_
    obtain ⟨s5, hc, hF⟩ := bnd_some hF
    refine r_callVv cx hP (As := [.int p3]) (w6_addWord l Γ ad A p3 s4 s5 hc) mw11_65 ⟨Nat.le_of_ble_eq_true rfl, Nat.le_of_ble_eq_true rfl⟩ (dXr (by decide)) rfl rfl rfl (Nat.le_of_ble_eq_true rfl) hl.1 ⟨Nat.zero_le _, Nat.zero_le _⟩ dX11_append_40 (fun H locs hP => ?_)
    refine r_aload_n cx dX11_append_43 (lv_at hl 0 rfl) ?_
    refine gf11_37 cx hP dX11_append_44 ?_
    refine r_iload cx dX11_append_47 (lv_at hl 4 rfl) ?_
    obtain ⟨s6, hc, hF⟩ := bnd_some hF
    refine r_callVv cx hP (As := [.int p4]) (w6_addWord l Γ ad A p4 s5 s6 hc) mw11_65 ⟨Nat.le_of_ble_eq_true rfl, Nat.le_of_ble_eq_true rfl⟩ (dXr (by decide)) rfl rfl rfl (Nat.le_of_ble_eq_true rfl) hl.1 ⟨Nat.zero_le _, Nat.zero_le _⟩ dX11_append_49 (fun H locs hP => ?_)
    refine r_aload_n cx dX11_append_52 (lv_at hl 0 rfl) ?_
    refine gf11_37 cx hP dX11_append_53 ?_
    refine r_iload cx dX11_append_56 (lv_at hl 5 rfl) ?_
    obtain ⟨s7, hc, hF⟩ := bnd_some hF
    refine r_callVv cx hP (As := [.int p5]) (w6_addWord l Γ ad A p5 s6 s7 hc) mw11_65 ⟨Nat.le_of_ble_eq_true rfl, Nat.le_of_ble_eq_true rfl⟩ (dXr (by decide)) rfl rfl rfl (Nat.le_of_ble_eq_true rfl) hl.1 ⟨Nat.zero_le _, Nat.zero_le _⟩ dX11_append_58 (fun H locs hP => ?_)
    refine r_aload_n cx dX11_append_61 (lv_at hl 0 rfl) ?_
    refine gf11_37 cx hP dX11_append_62 ?_
    refine gf11_56 cx hP dX11_append_65 hF (fun v8 hF => ?_)
    exact r_iret cx hP hr hk dX11_append_68 hF
  · refine r_bipush cx (-2) dX11_append_16 (by decide) ?_
    exact r_iret cx hP hr hk dX11_append_18 hF
set_option maxHeartbeats 4000000 in
set_option maxRecDepth 100000 in
theorem w3_letPeacocksWalk (l : Launch) (Γ : Wc) (ad : Nat → Nat → Nat) (A : Nat → Prop) (n : Nat) (hn : n < 11) (p1 : Int32) (p2 : Int32) (σ : Sig) (σ1 : Sig) (hF : f3_letPeacocksWalk n p1 p2 σ = some σ1) : MV l SX Γ ad A yX3_letPeacocksWalk cX3_letPeacocksWalk 3 0 0 [.ref (ad (n + 1) 1), .int p1, .int p2] σ σ1 := by
  refine MV.of (by decide) (Nat.le_of_ble_eq_true rfl) ?_
  intro p e s m args below meth c ls cx hr hk hP hl
  have hl : lv_has ls 3 [(0, .ref (ad (n + 1) 1)), (1, .int p1), (2, .int p2)] := hl
  rw [f3_letPeacocksWalk] at hF
  refine r_aload_n cx dX3_letPeacocksWalk_0 (lv_at hl 0 rfl) ?_
  refine r_iload_n cx dX3_letPeacocksWalk_1 (lv_at hl 1 rfl) ?_
  refine pf3_19 cx hP hn dX3_letPeacocksWalk_2 hF (fun s1 H locs hP hF => ?_)
  refine r_aload_n cx dX3_letPeacocksWalk_5 (lv_at hl 0 rfl) ?_
  refine r_iload_n cx dX3_letPeacocksWalk_6 (lv_at hl 2 rfl) ?_
  refine pf3_22 cx hP hn dX3_letPeacocksWalk_7 hF (fun s2 H locs hP hF => ?_)
  exact r_vret cx hP hr hk dX3_letPeacocksWalk_10 hF
set_option maxHeartbeats 4000000 in
set_option maxRecDepth 100000 in
theorem w3_reset (l : Launch) (Γ : Wc) (ad : Nat → Nat → Nat) (A : Nat → Prop) (n : Nat) (hn : n < 11) (σ : Sig) (σ1 : Sig) (hF : f3_reset n σ = some σ1) : MV l SX Γ ad A yX3_reset cX3_reset 1 1 22 [.ref (ad (n + 1) 1)] σ σ1 := by
  refine MV.of (by decide) (Nat.le_of_ble_eq_true rfl) ?_
  intro p e s m args below meth c ls cx hr hk hP hl
  have hl : lv_has ls 1 [(0, .ref (ad (n + 1) 1))] := hl
  rw [f3_reset] at hF
  refine r_aload_n cx dX3_reset_0 (lv_at hl 0 rfl) ?_
  refine r_iconst cx 0 dX3_reset_1 (by decide) ?_
  refine pf3_9 cx hP hn dX3_reset_2 hF (fun s1 H locs hP hF => ?_)
  refine r_aload_n cx dX3_reset_5 (lv_at hl 0 rfl) ?_
  refine r_bipush cx 50 dX3_reset_6 (by decide) ?_
  refine r_bipush cx 53 dX3_reset_8 (by decide) ?_
  obtain ⟨s2, hc, hF⟩ := bnd_some hF
  refine r_callVv cx hP (As := [.int 50, .int 53]) (w3_letPeacocksWalk l Γ ad A n hn 50 53 s1 s2 hc) mw3_15 ⟨Nat.le_of_ble_eq_true rfl, Nat.le_of_ble_eq_true rfl⟩ (dXg hn (by decide)) rfl rfl rfl (Nat.le_of_ble_eq_true rfl) hl.1 ⟨Nat.zero_le _, Nat.zero_le _⟩ dX3_reset_10 (fun H locs hP => ?_)
  exact r_vret cx hP hr hk dX3_reset_13 hF
set_option maxHeartbeats 4000000 in
set_option maxRecDepth 100000 in
theorem w10_reset (l : Launch) (Γ : Wc) (ad : Nat → Nat → Nat) (A : Nat → Prop) (n : Nat) (hn : n < 11) (σ : Sig) (σ1 : Sig) (hF : f10_reset n σ = some σ1) : MV l SX Γ ad A yX10_reset cX10_reset 1 0 0 [.ref (ad (n + 1) 2)] σ σ1 := by
  refine MV.of (by decide) (Nat.le_of_ble_eq_true rfl) ?_
  intro p e s m args below meth c ls cx hr hk hP hl
  have hl : lv_has ls 1 [(0, .ref (ad (n + 1) 2))] := hl
  rw [f10_reset] at hF
  refine r_aload_n cx dX10_reset_0 (lv_at hl 0 rfl) ?_
  refine r_iconst cx 0 dX10_reset_1 (by decide) ?_
  refine pf10_15 cx hP hn dX10_reset_2 hF (fun s1 H locs hP hF => ?_)
  refine r_aload_n cx dX10_reset_5 (lv_at hl 0 rfl) ?_
  refine r_iconst cx 2 dX10_reset_6 (by decide) ?_
  refine pf10_19 cx hP hn dX10_reset_7 hF (fun s2 H locs hP hF => ?_)
  exact r_vret cx hP hr hk dX10_reset_10 hF
set_option maxHeartbeats 4000000 in
set_option maxRecDepth 100000 in
theorem w1_reset (l : Launch) (Γ : Wc) (ad : Nat → Nat → Nat) (A : Nat → Prop) (n : Nat) (hn : n < 11) (σ : Sig) (σ1 : Sig) (hF : f1_reset n σ = some σ1) : MV l SX Γ ad A yX1_reset cX1_reset 1 0 0 [.ref (ad (n + 1) 6)] σ σ1 := by
  refine MV.of (by decide) (Nat.le_of_ble_eq_true rfl) ?_
  intro p e s m args below meth c ls cx hr hk hP hl
  have hl : lv_has ls 1 [(0, .ref (ad (n + 1) 6))] := hl
  rw [f1_reset] at hF
  refine r_aload_n cx dX1_reset_0 (lv_at hl 0 rfl) ?_
  refine r_iconst cx 0 dX1_reset_1 (by decide) ?_
  refine pf1_7 cx hP hn dX1_reset_2 hF (fun s1 H locs hP hF => ?_)
  refine r_aload_n cx dX1_reset_5 (lv_at hl 0 rfl) ?_
  refine r_iconst cx 0 dX1_reset_6 (by decide) ?_
  refine pf1_13 cx hP hn dX1_reset_7 hF (fun s2 H locs hP hF => ?_)
  refine r_aload_n cx dX1_reset_10 (lv_at hl 0 rfl) ?_
  refine r_iconst cx 0 dX1_reset_11 (by decide) ?_
  refine pf1_16 cx hP hn dX1_reset_12 hF (fun s3 H locs hP hF => ?_)
  refine r_aload_n cx dX1_reset_15 (lv_at hl 0 rfl) ?_
  refine r_iconst cx 0 dX1_reset_16 (by decide) ?_
  refine pf1_19 cx hP hn dX1_reset_17 hF (fun s4 H locs hP hF => ?_)
  refine r_aload_n cx dX1_reset_20 (lv_at hl 0 rfl) ?_
  refine r_iconst cx 0 dX1_reset_21 (by decide) ?_
  refine pf1_22 cx hP hn dX1_reset_22 hF (fun s5 H locs hP hF => ?_)
  refine r_aload_n cx dX1_reset_25 (lv_at hl 0 rfl) ?_
  refine r_iconst cx 0 dX1_reset_26 (by decide) ?_
  refine pf1_25 cx hP hn dX1_reset_27 hF (fun s6 H locs hP hF => ?_)
  exact r_vret cx hP hr hk dX1_reset_30 hF
set_option maxHeartbeats 4000000 in
set_option maxRecDepth 100000 in
theorem w4_reset (l : Launch) (Γ : Wc) (ad : Nat → Nat → Nat) (A : Nat → Prop) (n : Nat) (hn : n < 11) (σ : Sig) (σ1 : Sig) (hF : f4_reset n σ = some σ1) : MV l SX Γ ad A yX4_reset cX4_reset 1 2 42 [.ref (ad (n + 1) 0)] σ σ1 := by
  refine MV.of (by decide) (Nat.le_of_ble_eq_true rfl) ?_
  intro p e s m args below meth c ls cx hr hk hP hl
  have hl : lv_has ls 1 [(0, .ref (ad (n + 1) 0))] := hl
  rw [f4_reset] at hF
  refine r_aload_n cx dX4_reset_0 (lv_at hl 0 rfl) ?_
  refine gf4_12 cx hP hn dX4_reset_1 ?_
  obtain ⟨s1, hc, hF⟩ := bnd_some hF
  refine r_callVv cx hP (As := []) (w3_reset l Γ ad A n hn σ s1 hc) mw4_53 ⟨Nat.le_of_ble_eq_true rfl, Nat.le_of_ble_eq_true rfl⟩ (dXg hn (by decide)) rfl rfl rfl (Nat.le_of_ble_eq_true rfl) hl.1 ⟨Nat.zero_le _, Nat.zero_le _⟩ dX4_reset_4 (fun H locs hP => ?_)
  refine r_aload_n cx dX4_reset_7 (lv_at hl 0 rfl) ?_
  refine gf4_21 cx hP hn dX4_reset_8 ?_
  obtain ⟨s2, hc, hF⟩ := bnd_some hF
  refine r_callVv cx hP (As := []) (w10_reset l Γ ad A n hn s1 s2 hc) mw4_56 ⟨Nat.le_of_ble_eq_true rfl, Nat.le_of_ble_eq_true rfl⟩ (dXg hn (by decide)) rfl rfl rfl (Nat.le_of_ble_eq_true rfl) hl.1 ⟨Nat.zero_le _, Nat.zero_le _⟩ dX4_reset_11 (fun H locs hP => ?_)
  refine r_aload_n cx dX4_reset_14 (lv_at hl 0 rfl) ?_
  refine gf4_28 cx hP hn dX4_reset_15 ?_
  refine r_iconst cx 0 dX4_reset_18 (by decide) ?_
  refine pf4_57 cx hP hn dX4_reset_19 hF (fun s3 H locs hP hF => ?_)
  refine r_aload_n cx dX4_reset_22 (lv_at hl 0 rfl) ?_
  refine gf4_35 cx hP hn dX4_reset_23 ?_
  refine r_iconst cx 0 dX4_reset_26 (by decide) ?_
  refine pf4_61 cx hP hn dX4_reset_27 hF (fun s4 H locs hP hF => ?_)
  refine r_aload_n cx dX4_reset_30 (lv_at hl 0 rfl) ?_
  refine gf4_42 cx hP hn dX4_reset_31 ?_
  refine r_iconst cx 0 dX4_reset_34 (by decide) ?_
  refine pf4_62 cx hP hn dX4_reset_35 hF (fun s5 H locs hP hF => ?_)
  refine r_aload_n cx dX4_reset_38 (lv_at hl 0 rfl) ?_
  refine gf4_49 cx hP hn dX4_reset_39 ?_
  obtain ⟨s6, hc, hF⟩ := bnd_some hF
  refine r_callVv cx hP (As := []) (w1_reset l Γ ad A n hn s5 s6 hc) mw4_63 ⟨Nat.le_of_ble_eq_true rfl, Nat.le_of_ble_eq_true rfl⟩ (dXg hn (by decide)) rfl rfl rfl (Nat.le_of_ble_eq_true rfl) hl.1 ⟨Nat.zero_le _, Nat.zero_le _⟩ dX4_reset_42 (fun H locs hP => ?_)
  refine r_aload_n cx dX4_reset_45 (lv_at hl 0 rfl) ?_
  refine r_iconst cx 1 dX4_reset_46 (by decide) ?_
  refine pf4_64 cx hP hn dX4_reset_47 hF (fun s7 H locs hP hF => ?_)
  exact r_vret cx hP hr hk dX4_reset_50 hF
set_option maxHeartbeats 4000000 in
set_option maxRecDepth 100000 in
theorem w6_kindOf (l : Launch) (Γ : Wc) (ad : Nat → Nat → Nat) (A : Nat → Prop) (p0 : Int32) (σ : Sig) (r : Int32) (hF : f6_kindOf p0 = some r) : MI l SX Γ ad A yX6_kindOf cX6_kindOf 1 (some .int) 0 0 [.int p0] σ r σ := by
  refine MI.of (by decide) (Nat.le_of_ble_eq_true rfl) ?_
  intro p e s m args below meth c ls cx hr hk hP hl
  have hl : lv_has ls 1 [(0, .int p0)] := hl
  rw [f6_kindOf] at hF
  generalize hH0 : s.heap = H0 at hP ⊢
  generalize ([] : List Loc) = locs0 at hP ⊢
  clear hH0
  have b28 : ∀ (x0 : Int32) (H : Heap) (locs : List Loc) (ls : Array Slot), PS SX Γ ad A s σ H locs → lv_has ls 1 [(0, .int x0)] → f6_kindOf_b28 x0 = some r → W p l e (rmz 0 0) s m args below meth c H locs 0 0 (QI SX Γ ad A below args s r σ) (F0 m 28 ls []) := by
    intro x0 H locs ls hP hl hF
    rw [f6_kindOf_b28] at hF
    refine r_iload_n cx dX6_kindOf_28 (lv_at hl 0 rfl) ?_
    refine r_bipush cx 59 dX6_kindOf_29 (by decide) ?_
    refine r_icmp_ne cx 38 dX6_kindOf_31 (by decide) hF (fun hF => ?_) (fun hF => ?_)
    · refine r_iconst cx 4 dX6_kindOf_38 (by decide) ?_
      exact r_iret cx hP hr hk dX6_kindOf_39 (prF hF)
    · refine r_iconst cx 2 dX6_kindOf_34 (by decide) ?_
      refine r_goto cx 39 dX6_kindOf_35 (by decide) ?_
      exact r_iret cx hP hr hk dX6_kindOf_39 (prF hF)
  have b14 : ∀ (x0 : Int32) (H : Heap) (locs : List Loc) (ls : Array Slot), PS SX Γ ad A s σ H locs → lv_has ls 1 [(0, .int x0)] → f6_kindOf_b14 x0 = some r → W p l e (rmz 0 0) s m args below meth c H locs 0 0 (QI SX Γ ad A below args s r σ) (F0 m 14 ls []) := by
    intro x0 H locs ls hP hl hF
    rw [f6_kindOf_b14] at hF
    refine r_iload_n cx dX6_kindOf_14 (lv_at hl 0 rfl) ?_
    refine r_bipush cx 48 dX6_kindOf_15 (by decide) ?_
    refine r_icmp_lt cx 28 dX6_kindOf_17 (by decide) hF (fun hF => ?_) (fun hF => ?_)
    · exact b28 x0 _ _ _ hP (lv_sub hl [0] rfl) hF
    · refine r_iload_n cx dX6_kindOf_20 (lv_at hl 0 rfl) ?_
      refine r_bipush cx 57 dX6_kindOf_21 (by decide) ?_
      refine r_icmp_gt cx 28 dX6_kindOf_23 (by decide) hF (fun hF => ?_) (fun hF => ?_)
      · exact b28 x0 _ _ _ hP (lv_sub hl [0] rfl) hF
      · refine r_iconst cx 1 dX6_kindOf_26 (by decide) ?_
        exact r_iret cx hP hr hk dX6_kindOf_27 (prF hF)
  refine r_iload_n cx dX6_kindOf_0 (lv_at hl 0 rfl) ?_
  refine r_bipush cx 97 dX6_kindOf_1 (by decide) ?_
  refine r_icmp_lt cx 14 dX6_kindOf_3 (by decide) hF (fun hF => ?_) (fun hF => ?_)
  · exact b14 p0 _ _ _ hP (lv_sub hl [0] rfl) hF
  · refine r_iload_n cx dX6_kindOf_6 (lv_at hl 0 rfl) ?_
    refine r_bipush cx 122 dX6_kindOf_7 (by decide) ?_
    refine r_icmp_gt cx 14 dX6_kindOf_9 (by decide) hF (fun hF => ?_) (fun hF => ?_)
    · exact b14 p0 _ _ _ hP (lv_sub hl [0] rfl) hF
    · refine r_iconst cx 0 dX6_kindOf_12 (by decide) ?_
      exact r_iret cx hP hr hk dX6_kindOf_13 (prF hF)
set_option maxHeartbeats 4000000 in
set_option maxRecDepth 100000 in
theorem w6_readNext (l : Launch) (Γ : Wc) (ad : Nat → Nat → Nat) (A : Nat → Prop)  (σ : Sig) (σ1 : Sig) (hF : f6_readNext  σ = some σ1) : MV l SX Γ ad A yX6_readNext cX6_readNext 1 1 20 [.ref (ad 0 4)] σ σ1 := by
  refine MV.of (by decide) (Nat.le_of_ble_eq_true rfl) ?_
  intro p e s m args below meth c ls cx hr hk hP hl
  have hl : lv_has ls 1 [(0, .ref (ad 0 4))] := hl
  rw [f6_readNext] at hF
  generalize hH0 : s.heap = H0 at hP ⊢
  generalize ([] : List Loc) = locs0 at hP ⊢
  clear hH0
  have b47 : ∀ (rc : Sig → Option (Sig)) (ih : ∀ (σ : Sig) (H : Heap) (locs : List Loc) (ls : Array Slot), PS SX Γ ad A s σ H locs → lv_has ls 1 [(0, .ref (ad 0 4))] → rc σ = some σ1 → W p l e (rmz 1 20) s m args below meth c H locs 0 0 (QV SX Γ ad A below args s σ1) (F0 m 8 ls [])) (σ : Sig) (H : Heap) (locs : List Loc) (ls : Array Slot), PS SX Γ ad A s σ H locs → lv_has ls 1 [(0, .ref (ad 0 4))] → f6_readNext_b47 rc σ = some σ1 → W p l e (rmz 1 20) s m args below meth c H locs 0 0 (QV SX Γ ad A below args s σ1) (F0 m 47 ls []) := by
    intro rc ih σ H locs ls hP hl hF
    rw [f6_readNext_b47] at hF
    refine r_aload_n cx dX6_readNext_47 (lv_at hl 0 rfl) ?_
    refine r_dup cx dX6_readNext_48 rfl ?_
    refine gf6_40 cx hP dX6_readNext_49 hF (fun v1 hF => ?_)
    refine r_iconst cx 1 dX6_readNext_52 (by decide) ?_
    refine r_iadd cx dX6_readNext_53 hF (fun v2 hF => ?_)
    refine pf6_40 cx hP dX6_readNext_54 hF (fun s3 H locs hP hF => ?_)
    refine r_goto cx 8 dX6_readNext_57 (by decide) ?_
    exact ih s3 _ _ _ hP (lv_sub hl [0] rfl) hF
  have b169 : ∀ (σ : Sig) (H : Heap) (locs : List Loc) (ls : Array Slot), PS SX Γ ad A s σ H locs → lv_has ls 1 [(0, .ref (ad 0 4))] → f6_readNext_b169 σ = some σ1 → W p l e (rmz 1 20) s m args below meth c H locs 0 0 (QV SX Γ ad A below args s σ1) (F0 m 169 ls []) := by
    intro σ H locs ls hP hl hF
    rw [f6_readNext_b169] at hF
    refine r_aload_n cx dX6_readNext_169 (lv_at hl 0 rfl) ?_
    refine gf6_43 cx hP dX6_readNext_170 hF (fun v4 hF => ?_)
    refine r_iconst cx 1 dX6_readNext_173 (by decide) ?_
    refine r_icmp_ne cx 195 dX6_readNext_174 (by decide) hF (fun hF => ?_) (fun hF => ?_)
    · exact r_vret cx hP hr hk dX6_readNext_195 hF
    · refine r_aload_n cx dX6_readNext_177 (lv_at hl 0 rfl) ?_
      refine gf6_34 cx hP dX6_readNext_178 hF (fun v5 hF => ?_)
      refine r_aload_n cx dX6_readNext_181 (lv_at hl 0 rfl) ?_
      refine gf6_40 cx hP dX6_readNext_182 hF (fun v6 hF => ?_)
      refine r_isub cx dX6_readNext_185 hF (fun v7 hF => ?_)
      refine r_iconst cx 4 dX6_readNext_186 (by decide) ?_
      refine r_icmp_le cx 195 dX6_readNext_187 (by decide) hF (fun hF => ?_) (fun hF => ?_)
      · exact r_vret cx hP hr hk dX6_readNext_195 hF
      · refine r_aload_n cx dX6_readNext_190 (lv_at hl 0 rfl) ?_
        refine r_iconst cx 4 dX6_readNext_191 (by decide) ?_
        refine pf6_43 cx hP dX6_readNext_192 hF (fun s8 H locs hP hF => ?_)
        exact r_vret cx hP hr hk dX6_readNext_195 hF
  have b126 : ∀ (rc : Sig → Option (Sig)) (ih : ∀ (σ : Sig) (H : Heap) (locs : List Loc) (ls : Array Slot), PS SX Γ ad A s σ H locs → lv_has ls 1 [(0, .ref (ad 0 4))] → rc σ = some σ1 → W p l e (rmz 1 20) s m args below meth c H locs 0 0 (QV SX Γ ad A below args s σ1) (F0 m 111 ls [])) (σ : Sig) (H : Heap) (locs : List Loc) (ls : Array Slot), PS SX Γ ad A s σ H locs → lv_has ls 1 [(0, .ref (ad 0 4))] → f6_readNext_b126 rc σ = some σ1 → W p l e (rmz 1 20) s m args below meth c H locs 0 0 (QV SX Γ ad A below args s σ1) (F0 m 126 ls []) := by
    intro rc ih σ H locs ls hP hl hF
    rw [f6_readNext_b126] at hF
    refine r_aload_n cx dX6_readNext_126 (lv_at hl 0 rfl) ?_
    refine gf6_34 cx hP dX6_readNext_127 hF (fun v9 hF => ?_)
    refine r_aload_n cx dX6_readNext_130 (lv_at hl 0 rfl) ?_
    refine gf6_27 cx hP dX6_readNext_131 hF (fun v10 hF => ?_)
    refine r_icmp_ge cx 169 dX6_readNext_134 (by decide) hF (fun hF => ?_) (fun hF => ?_)
    · exact b169 σ _ _ _ hP (lv_sub hl [0] rfl) hF
    · refine r_aload_n cx dX6_readNext_137 (lv_at hl 0 rfl) ?_
      refine gf6_9 cx hP dX6_readNext_138 ?_
      refine r_aload_n cx dX6_readNext_141 (lv_at hl 0 rfl) ?_
      refine gf6_34 cx hP dX6_readNext_142 hF (fun v11 hF => ?_)
      refine r_bald cx hP (dXr (by decide)) rfl dX6_readNext_145 hF (fun v12 hF => ?_)
      obtain ⟨v13, hc, hF⟩ := bnd_some hF
      refine r_callSi cx hP (As := [.int v12]) (w6_kindOf l Γ ad A v12 σ v13 hc) mw6_46 ⟨Nat.le_of_ble_eq_true rfl, Nat.le_of_ble_eq_true rfl⟩ rfl (Nat.le_of_ble_eq_true rfl) hl.1 ⟨Nat.zero_le _, Nat.zero_le _⟩ dX6_readNext_146 (fun H locs hP => ?_)
      refine r_aload_n cx dX6_readNext_149 (lv_at hl 0 rfl) ?_
      refine gf6_43 cx hP dX6_readNext_150 hF (fun v14 hF => ?_)
      refine r_icmp_ne cx 169 dX6_readNext_153 (by decide) hF (fun hF => ?_) (fun hF => ?_)
      · exact b169 σ _ _ _ hP (lv_sub hl [0] rfl) hF
      · refine r_aload_n cx dX6_readNext_156 (lv_at hl 0 rfl) ?_
        refine r_dup cx dX6_readNext_157 rfl ?_
        refine gf6_34 cx hP dX6_readNext_158 hF (fun v15 hF => ?_)
        refine r_iconst cx 1 dX6_readNext_161 (by decide) ?_
        refine r_iadd cx dX6_readNext_162 hF (fun v16 hF => ?_)
        refine pf6_34 cx hP dX6_readNext_163 hF (fun s17 H locs hP hF => ?_)
        refine r_goto cx 111 dX6_readNext_166 (by decide) ?_
        exact ih s17 _ _ _ hP (lv_sub hl [0] rfl) hF
  have b111 : ∀ (fu : Nat) (σ : Sig) (H : Heap) (locs : List Loc) (ls : Array Slot), PS SX Γ ad A s σ H locs → lv_has ls 1 [(0, .ref (ad 0 4))] → f6_readNext_b111 fu σ = some σ1 → W p l e (rmz 1 20) s m args below meth c H locs 0 0 (QV SX Γ ad A below args s σ1) (F0 m 111 ls []) := by
    intro fu
    induction fu with
    | zero => intro σ H locs ls hP hl hF; exact nofu hF
    | succ fu ih =>
      intro σ H locs ls hP hl hF
      rw [f6_readNext_b111] at hF
      refine r_aload_n cx dX6_readNext_111 (lv_at hl 0 rfl) ?_
      refine gf6_43 cx hP dX6_readNext_112 hF (fun v18 hF => ?_)
      refine r_if_eq cx 126 dX6_readNext_115 (by decide) hF (fun hF => ?_) (fun hF => ?_)
      · exact b126 (f6_readNext_b111 fu) ih σ _ _ _ hP (lv_sub hl [0] rfl) hF
      · refine r_aload_n cx dX6_readNext_118 (lv_at hl 0 rfl) ?_
        refine gf6_43 cx hP dX6_readNext_119 hF (fun v19 hF => ?_)
        refine r_iconst cx 1 dX6_readNext_122 (by decide) ?_
        refine r_icmp_ne cx 169 dX6_readNext_123 (by decide) hF (fun hF => ?_) (fun hF => ?_)
        · exact b169 σ _ _ _ hP (lv_sub hl [0] rfl) hF
        · exact b126 (f6_readNext_b111 fu) ih σ _ _ _ hP (lv_sub hl [0] rfl) hF
  have b60 : ∀ (σ : Sig) (H : Heap) (locs : List Loc) (ls : Array Slot), PS SX Γ ad A s σ H locs → lv_has ls 1 [(0, .ref (ad 0 4))] → f6_readNext_b60 σ = some σ1 → W p l e (rmz 1 20) s m args below meth c H locs 0 0 (QV SX Γ ad A below args s σ1) (F0 m 60 ls []) := by
    intro σ H locs ls hP hl hF
    rw [f6_readNext_b60] at hF
    refine r_aload_n cx dX6_readNext_60 (lv_at hl 0 rfl) ?_
    refine r_aload_n cx dX6_readNext_61 (lv_at hl 0 rfl) ?_
    refine gf6_40 cx hP dX6_readNext_62 hF (fun v20 hF => ?_)
    refine pf6_34 cx hP dX6_readNext_65 hF (fun s21 H locs hP hF => ?_)
    refine r_aload_n cx dX6_readNext_68 (lv_at hl 0 rfl) ?_
    refine gf6_40 cx hP dX6_readNext_69 hF (fun v22 hF => ?_)
    refine r_aload_n cx dX6_readNext_72 (lv_at hl 0 rfl) ?_
    refine gf6_27 cx hP dX6_readNext_73 hF (fun v23 hF => ?_)
    refine r_icmp_ne cx 85 dX6_readNext_76 (by decide) hF (fun hF => ?_) (fun hF => ?_)
    · refine r_aload_n cx dX6_readNext_85 (lv_at hl 0 rfl) ?_
      refine r_aload_n cx dX6_readNext_86 (lv_at hl 0 rfl) ?_
      refine gf6_9 cx hP dX6_readNext_87 ?_
      refine r_aload_n cx dX6_readNext_90 (lv_at hl 0 rfl) ?_
      refine gf6_40 cx hP dX6_readNext_91 hF (fun v24 hF => ?_)
      refine r_bald cx hP (dXr (by decide)) rfl dX6_readNext_94 hF (fun v25 hF => ?_)
      obtain ⟨v26, hc, hF⟩ := bnd_some hF
      refine r_callSi cx hP (As := [.int v25]) (w6_kindOf l Γ ad A v25 s21 v26 hc) mw6_46 ⟨Nat.le_of_ble_eq_true rfl, Nat.le_of_ble_eq_true rfl⟩ rfl (Nat.le_of_ble_eq_true rfl) hl.1 ⟨Nat.zero_le _, Nat.zero_le _⟩ dX6_readNext_95 (fun H locs hP => ?_)
      refine pf6_43 cx hP dX6_readNext_98 hF (fun s27 H locs hP hF => ?_)
      refine r_aload_n cx dX6_readNext_101 (lv_at hl 0 rfl) ?_
      refine r_dup cx dX6_readNext_102 rfl ?_
      refine gf6_34 cx hP dX6_readNext_103 hF (fun v28 hF => ?_)
      refine r_iconst cx 1 dX6_readNext_106 (by decide) ?_
      refine r_iadd cx dX6_readNext_107 hF (fun v29 hF => ?_)
      refine pf6_34 cx hP dX6_readNext_108 hF (fun s30 H locs hP hF => ?_)
      exact b111 FU s30 _ _ _ hP (lv_sub hl [0] rfl) hF
    · refine r_aload_n cx dX6_readNext_79 (lv_at hl 0 rfl) ?_
      refine r_iconst cx 3 dX6_readNext_80 (by decide) ?_
      refine pf6_43 cx hP dX6_readNext_81 hF (fun s31 H locs hP hF => ?_)
      exact r_vret cx hP hr hk dX6_readNext_84 hF
  have b8 : ∀ (fu : Nat) (σ : Sig) (H : Heap) (locs : List Loc) (ls : Array Slot), PS SX Γ ad A s σ H locs → lv_has ls 1 [(0, .ref (ad 0 4))] → f6_readNext_b8 fu σ = some σ1 → W p l e (rmz 1 20) s m args below meth c H locs 0 0 (QV SX Γ ad A below args s σ1) (F0 m 8 ls []) := by
    intro fu
    induction fu with
    | zero => intro σ H locs ls hP hl hF; exact nofu hF
    | succ fu ih =>
      intro σ H locs ls hP hl hF
      rw [f6_readNext_b8] at hF
      refine r_aload_n cx dX6_readNext_8 (lv_at hl 0 rfl) ?_
      refine gf6_40 cx hP dX6_readNext_9 hF (fun v32 hF => ?_)
      refine r_aload_n cx dX6_readNext_12 (lv_at hl 0 rfl) ?_
      refine gf6_27 cx hP dX6_readNext_13 hF (fun v33 hF => ?_)
      refine r_icmp_ge cx 60 dX6_readNext_16 (by decide) hF (fun hF => ?_) (fun hF => ?_)
      · exact b60 σ _ _ _ hP (lv_sub hl [0] rfl) hF
      · refine r_aload_n cx dX6_readNext_19 (lv_at hl 0 rfl) ?_
        refine gf6_9 cx hP dX6_readNext_20 ?_
        refine r_aload_n cx dX6_readNext_23 (lv_at hl 0 rfl) ?_
        refine gf6_40 cx hP dX6_readNext_24 hF (fun v34 hF => ?_)
        refine r_bald cx hP (dXr (by decide)) rfl dX6_readNext_27 hF (fun v35 hF => ?_)
        refine r_bipush cx 32 dX6_readNext_28 (by decide) ?_
        refine r_icmp_eq cx 47 dX6_readNext_30 (by decide) hF (fun hF => ?_) (fun hF => ?_)
        · exact b47 (f6_readNext_b8 fu) ih σ _ _ _ hP (lv_sub hl [0] rfl) hF
        · refine r_aload_n cx dX6_readNext_33 (lv_at hl 0 rfl) ?_
          refine gf6_9 cx hP dX6_readNext_34 ?_
          refine r_aload_n cx dX6_readNext_37 (lv_at hl 0 rfl) ?_
          refine gf6_40 cx hP dX6_readNext_38 hF (fun v36 hF => ?_)
          refine r_bald cx hP (dXr (by decide)) rfl dX6_readNext_41 hF (fun v37 hF => ?_)
          refine r_bipush cx 10 dX6_readNext_42 (by decide) ?_
          refine r_icmp_ne cx 60 dX6_readNext_44 (by decide) hF (fun hF => ?_) (fun hF => ?_)
          · exact b60 σ _ _ _ hP (lv_sub hl [0] rfl) hF
          · exact b47 (f6_readNext_b8 fu) ih σ _ _ _ hP (lv_sub hl [0] rfl) hF
  refine r_aload_n cx dX6_readNext_0 (lv_at hl 0 rfl) ?_
  refine r_aload_n cx dX6_readNext_1 (lv_at hl 0 rfl) ?_
  refine gf6_34 cx hP dX6_readNext_2 hF (fun v38 hF => ?_)
  refine pf6_40 cx hP dX6_readNext_5 hF (fun s39 H locs hP hF => ?_)
  exact b8 FU s39 _ _ _ hP (lv_sub hl [0] rfl) hF
set_option maxHeartbeats 4000000 in
set_option maxRecDepth 100000 in
theorem w6_readFirst (l : Launch) (Γ : Wc) (ad : Nat → Nat → Nat) (A : Nat → Prop)  (σ : Sig) (σ1 : Sig) (hF : f6_readFirst  σ = some σ1) : MV l SX Γ ad A yX6_readFirst cX6_readFirst 1 2 40 [.ref (ad 0 4)] σ σ1 := by
  refine MV.of (by decide) (Nat.le_of_ble_eq_true rfl) ?_
  intro p e s m args below meth c ls cx hr hk hP hl
  have hl : lv_has ls 1 [(0, .ref (ad 0 4))] := hl
  rw [f6_readFirst] at hF
  refine r_aload_n cx dX6_readFirst_0 (lv_at hl 0 rfl) ?_
  refine r_iconst cx 0 dX6_readFirst_1 (by decide) ?_
  refine pf6_34 cx hP dX6_readFirst_2 hF (fun s1 H locs hP hF => ?_)
  refine r_aload_n cx dX6_readFirst_5 (lv_at hl 0 rfl) ?_
  obtain ⟨s2, hc, hF⟩ := bnd_some hF
  refine r_callVv cx hP (As := []) (w6_readNext l Γ ad A s1 s2 hc) mw6_37 ⟨Nat.le_of_ble_eq_true rfl, Nat.le_of_ble_eq_true rfl⟩ (dXr (by decide)) rfl rfl rfl (Nat.le_of_ble_eq_true rfl) hl.1 ⟨Nat.zero_le _, Nat.zero_le _⟩ dX6_readFirst_6 (fun H locs hP => ?_)
  exact r_vret cx hP hr hk dX6_readFirst_9 hF
set_option maxHeartbeats 4000000 in
set_option maxRecDepth 100000 in
theorem w6_isWord (l : Launch) (Γ : Wc) (ad : Nat → Nat → Nat) (A : Nat → Prop) (k1 : Nat) (hk1 : k1 < strN) (σ : Sig) (r : Int32) (hF : f6_isWord k1 σ = some r) : MI l SX Γ ad A yX6_isWord cX6_isWord 3 (some .boolean) 4 86 [.ref (ad 0 4), .ref (Γ.2.2.1 k1)] σ r σ := by
  refine MI.of (by decide) (Nat.le_of_ble_eq_true rfl) ?_
  intro p e s m args below meth c ls cx hr hk hP hl
  have hl : lv_has ls 3 [(0, .ref (ad 0 4)), (1, .ref (Γ.2.2.1 k1))] := hl
  rw [f6_isWord] at hF
  generalize hH0 : s.heap = H0 at hP ⊢
  generalize ([] : List Loc) = locs0 at hP ⊢
  clear hH0
  have b27 : ∀ (fu : Nat) (x2 : Int32) (H : Heap) (locs : List Loc) (ls : Array Slot), PS SX Γ ad A s σ H locs → lv_has ls 3 [(0, .ref (ad 0 4)), (1, .ref (Γ.2.2.1 k1)), (2, .int x2)] → f6_isWord_b27 k1 fu x2 σ = some r → W p l e (rmz 4 86) s m args below meth c H locs 0 0 (QI SX Γ ad A below args s r σ) (F0 m 27 ls []) := by
    intro fu
    induction fu with
    | zero => intro x2 H locs ls hP hl hF; exact nofu hF
    | succ fu ih =>
      intro x2 H locs ls hP hl hF
      rw [f6_isWord_b27] at hF
      refine r_iload_n cx dX6_isWord_27 (lv_at hl 2 rfl) ?_
      refine r_aload_n cx dX6_isWord_28 (lv_at hl 1 rfl) ?_
      refine r_strlen cx hP hk1 mw6_15 ⟨Nat.le_of_ble_eq_true rfl, Nat.le_of_ble_eq_true rfl⟩ hl.1 (Nat.le_of_ble_eq_true rfl) ⟨Nat.zero_le _, Nat.zero_le _⟩ dX6_isWord_29 hF (fun v1 H locs hP hF => ?_)
      refine r_icmp_ge cx 62 dX6_isWord_32 (by decide) hF (fun hF => ?_) (fun hF => ?_)
      · refine r_iconst cx 1 dX6_isWord_62 (by decide) ?_
        exact r_zret cx hP hr hk (by decide) dX6_isWord_63 (prF hF)
      · refine r_aload_n cx dX6_isWord_35 (lv_at hl 0 rfl) ?_
        refine gf6_9 cx hP dX6_isWord_36 ?_
        refine r_aload_n cx dX6_isWord_39 (lv_at hl 0 rfl) ?_
        refine gf6_40 cx hP dX6_isWord_40 hF (fun v2 hF => ?_)
        refine r_iload_n cx dX6_isWord_43 (lv_at hl 2 rfl) ?_
        refine r_iadd cx dX6_isWord_44 hF (fun v3 hF => ?_)
        refine r_bald cx hP (dXr (by decide)) rfl dX6_isWord_45 hF (fun v4 hF => ?_)
        refine r_aload_n cx dX6_isWord_46 (lv_at hl 1 rfl) ?_
        refine r_iload_n cx dX6_isWord_47 (lv_at hl 2 rfl) ?_
        refine r_charAt cx hP hk1 mw6_30 ⟨Nat.le_of_ble_eq_true rfl, Nat.le_of_ble_eq_true rfl⟩ rfl (Nat.le_of_ble_eq_true rfl) hl.1 ⟨Nat.zero_le _, Nat.zero_le _⟩ dX6_isWord_48 hF (fun v5 H locs hP hF => ?_)
        refine r_icmp_eq cx 56 dX6_isWord_51 (by decide) hF (fun hF => ?_) (fun hF => ?_)
        · refine r_iinc cx (k := 2) (w := 1) (fun v6 => [(2, .int v6), (0, .ref (ad 0 4)), (1, .ref (Γ.2.2.1 k1))]) dX6_isWord_56 hl rfl (by decide) (by decide) hF (fun _ => rfl) (fun v6 ls hF hl => ?_)
          refine r_goto cx 27 dX6_isWord_59 (by decide) ?_
          exact ih v6 _ _ _ hP (lv_sub hl [1, 2, 0] rfl) hF
        · refine r_iconst cx 0 dX6_isWord_54 (by decide) ?_
          exact r_zret cx hP hr hk (by decide) dX6_isWord_55 (prF hF)
  refine r_aload_n cx dX6_isWord_0 (lv_at hl 0 rfl) ?_
  refine gf6_43 cx hP dX6_isWord_1 hF (fun v7 hF => ?_)
  refine r_if_ne cx 23 dX6_isWord_4 (by decide) hF (fun hF => ?_) (fun hF => ?_)
  · refine r_iconst cx 0 dX6_isWord_23 (by decide) ?_
    exact r_zret cx hP hr hk (by decide) dX6_isWord_24 (prF hF)
  · refine r_aload_n cx dX6_isWord_7 (lv_at hl 0 rfl) ?_
    refine gf6_34 cx hP dX6_isWord_8 hF (fun v8 hF => ?_)
    refine r_aload_n cx dX6_isWord_11 (lv_at hl 0 rfl) ?_
    refine gf6_40 cx hP dX6_isWord_12 hF (fun v9 hF => ?_)
    refine r_isub cx dX6_isWord_15 hF (fun v10 hF => ?_)
    refine r_aload_n cx dX6_isWord_16 (lv_at hl 1 rfl) ?_
    refine r_strlen cx hP hk1 mw6_15 ⟨Nat.le_of_ble_eq_true rfl, Nat.le_of_ble_eq_true rfl⟩ hl.1 (Nat.le_of_ble_eq_true rfl) ⟨Nat.zero_le _, Nat.zero_le _⟩ dX6_isWord_17 hF (fun v11 H locs hP hF => ?_)
    refine r_icmp_eq cx 25 dX6_isWord_20 (by decide) hF (fun hF => ?_) (fun hF => ?_)
    · refine r_iconst cx 0 dX6_isWord_25 (by decide) ?_
      refine r_istore_n cx [(2, .int 0), (0, .ref (ad 0 4)), (1, .ref (Γ.2.2.1 k1))] dX6_isWord_26 hl (by decide) rfl (fun ls hl => ?_)
      exact b27 FU 0 _ _ _ hP (lv_sub hl [1, 2, 0] rfl) hF
    · refine r_iconst cx 0 dX6_isWord_23 (by decide) ?_
      exact r_zret cx hP hr hk (by decide) dX6_isWord_24 (prF hF)
set_option maxHeartbeats 4000000 in
set_option maxRecDepth 100000 in
theorem w9_fail (l : Launch) (Γ : Wc) (ad : Nat → Nat → Nat) (A : Nat → Prop) (p1 : Int32) (σ : Sig) (σ1 : Sig) (hF : f9_fail p1 σ = some σ1) : MV l SX Γ ad A yX9_fail cX9_fail 2 0 0 [.ref (ad 0 3), .int p1] σ σ1 := by
  refine MV.of (by decide) (Nat.le_of_ble_eq_true rfl) ?_
  intro p e s m args below meth c ls cx hr hk hP hl
  have hl : lv_has ls 2 [(0, .ref (ad 0 3)), (1, .int p1)] := hl
  rw [f9_fail] at hF
  refine r_aload_n cx dX9_fail_0 (lv_at hl 0 rfl) ?_
  refine gf9_25 cx hP dX9_fail_1 hF (fun v1 hF => ?_)
  refine r_if_ne cx 23 dX9_fail_4 (by decide) hF (fun hF => ?_) (fun hF => ?_)
  · exact r_vret cx hP hr hk dX9_fail_23 hF
  · refine r_aload_n cx dX9_fail_7 (lv_at hl 0 rfl) ?_
    refine r_iload_n cx dX9_fail_8 (lv_at hl 1 rfl) ?_
    refine pf9_25 cx hP dX9_fail_9 hF (fun s2 H locs hP hF => ?_)
    refine r_aload_n cx dX9_fail_12 (lv_at hl 0 rfl) ?_
    refine r_aload_n cx dX9_fail_13 (lv_at hl 0 rfl) ?_
    refine gf9_21 cx hP dX9_fail_14 ?_
    refine gf9_51 cx hP dX9_fail_17 hF (fun v3 hF => ?_)
    refine pf9_29 cx hP dX9_fail_20 hF (fun s4 H locs hP hF => ?_)
    exact r_vret cx hP hr hk dX9_fail_23 hF
set_option maxHeartbeats 4000000 in
set_option maxRecDepth 100000 in
theorem w6_valueOfNumber (l : Launch) (Γ : Wc) (ad : Nat → Nat → Nat) (A : Nat → Prop)  (σ : Sig) (r : Int32) (hF : f6_valueOfNumber  σ = some r) : MI l SX Γ ad A yX6_valueOfNumber cX6_valueOfNumber 3 (some .int) 0 0 [.ref (ad 0 4)] σ r σ := by
  refine MI.of (by decide) (Nat.le_of_ble_eq_true rfl) ?_
  intro p e s m args below meth c ls cx hr hk hP hl
  have hl : lv_has ls 3 [(0, .ref (ad 0 4))] := hl
  rw [f6_valueOfNumber] at hF
  generalize hH0 : s.heap = H0 at hP ⊢
  generalize ([] : List Loc) = locs0 at hP ⊢
  clear hH0
  have b7 : ∀ (fu : Nat) (x1 : Int32) (x2 : Int32) (H : Heap) (locs : List Loc) (ls : Array Slot), PS SX Γ ad A s σ H locs → lv_has ls 3 [(0, .ref (ad 0 4)), (1, .int x1), (2, .int x2)] → f6_valueOfNumber_b7 fu x1 x2 σ = some r → W p l e (rmz 0 0) s m args below meth c H locs 0 0 (QI SX Γ ad A below args s r σ) (F0 m 7 ls []) := by
    intro fu
    induction fu with
    | zero => intro x1 x2 H locs ls hP hl hF; exact nofu hF
    | succ fu ih =>
      intro x1 x2 H locs ls hP hl hF
      rw [f6_valueOfNumber_b7] at hF
      refine r_iload_n cx dX6_valueOfNumber_7 (lv_at hl 2 rfl) ?_
      refine r_aload_n cx dX6_valueOfNumber_8 (lv_at hl 0 rfl) ?_
      refine gf6_34 cx hP dX6_valueOfNumber_9 hF (fun v1 hF => ?_)
      refine r_icmp_ge cx 36 dX6_valueOfNumber_12 (by decide) hF (fun hF => ?_) (fun hF => ?_)
      · refine r_iload_n cx dX6_valueOfNumber_36 (lv_at hl 1 rfl) ?_
        exact r_iret cx hP hr hk dX6_valueOfNumber_37 (prF hF)
      · refine r_iload_n cx dX6_valueOfNumber_15 (lv_at hl 1 rfl) ?_
        refine r_bipush cx 10 dX6_valueOfNumber_16 (by decide) ?_
        refine r_imul cx dX6_valueOfNumber_18 hF (fun v2 hF => ?_)
        refine r_aload_n cx dX6_valueOfNumber_19 (lv_at hl 0 rfl) ?_
        refine gf6_9 cx hP dX6_valueOfNumber_20 ?_
        refine r_iload_n cx dX6_valueOfNumber_23 (lv_at hl 2 rfl) ?_
        refine r_bald cx hP (dXr (by decide)) rfl dX6_valueOfNumber_24 hF (fun v3 hF => ?_)
        refine r_iadd cx dX6_valueOfNumber_25 hF (fun v4 hF => ?_)
        refine r_bipush cx 48 dX6_valueOfNumber_26 (by decide) ?_
        refine r_isub cx dX6_valueOfNumber_28 hF (fun v5 hF => ?_)
        refine r_istore_n cx [(1, .int v5), (0, .ref (ad 0 4)), (2, .int x2)] dX6_valueOfNumber_29 hl (by decide) rfl (fun ls hl => ?_)
        refine r_iinc cx (k := 2) (w := 1) (fun v6 => [(2, .int v6), (1, .int v5), (0, .ref (ad 0 4))]) dX6_valueOfNumber_30 hl rfl (by decide) (by decide) hF (fun _ => rfl) (fun v6 ls hF hl => ?_)
        refine r_goto cx 7 dX6_valueOfNumber_33 (by decide) ?_
        exact ih v5 v6 _ _ _ hP (lv_sub hl [2, 1, 0] rfl) hF
  refine r_iconst cx 0 dX6_valueOfNumber_0 (by decide) ?_
  refine r_istore_n cx [(1, .int 0), (0, .ref (ad 0 4))] dX6_valueOfNumber_1 hl (by decide) rfl (fun ls hl => ?_)
  refine r_aload_n cx dX6_valueOfNumber_2 (lv_at hl 1 rfl) ?_
  refine gf6_40 cx hP dX6_valueOfNumber_3 hF (fun v7 hF => ?_)
  refine r_istore_n cx [(2, .int v7), (1, .int 0), (0, .ref (ad 0 4))] dX6_valueOfNumber_6 hl (by decide) rfl (fun ls hl => ?_)
  exact b7 FU 0 v7 _ _ _ hP (lv_sub hl [2, 1, 0] rfl) hF
set_option maxHeartbeats 4000000 in
set_option maxRecDepth 100000 in
theorem w9_numberHere (l : Launch) (Γ : Wc) (ad : Nat → Nat → Nat) (A : Nat → Prop) (p1 : Int32) (p2 : Int32) (σ : Sig) (r : Int32) (σ1 : Sig) (hF : f9_numberHere p1 p2 σ = some (r, σ1)) : MI l SX Γ ad A yX9_numberHere cX9_numberHere 4 (some .int) 1 22 [.ref (ad 0 3), .int p1, .int p2] σ r σ1 := by
  refine MI.of (by decide) (Nat.le_of_ble_eq_true rfl) ?_
  intro p e s m args below meth c ls cx hr hk hP hl
  have hl : lv_has ls 4 [(0, .ref (ad 0 3)), (1, .int p1), (2, .int p2)] := hl
  rw [f9_numberHere] at hF
  generalize hH0 : s.heap = H0 at hP ⊢
  generalize ([] : List Loc) = locs0 at hP ⊢
  clear hH0
  have b36 : ∀ (x3 : Int32) (σ : Sig) (H : Heap) (locs : List Loc) (ls : Array Slot), PS SX Γ ad A s σ H locs → lv_has ls 4 [(0, .ref (ad 0 3)), (3, .int x3)] → f9_numberHere_b36 x3 σ = some (r, σ1) → W p l e (rmz 1 22) s m args below meth c H locs 0 0 (QI SX Γ ad A below args s r σ1) (F0 m 36 ls []) := by
    intro x3 σ H locs ls hP hl hF
    rw [f9_numberHere_b36] at hF
    refine r_aload_n cx dX9_numberHere_36 (lv_at hl 0 rfl) ?_
    refine r_iconst cx 2 dX9_numberHere_37 (by decide) ?_
    obtain ⟨s1, hc, hF⟩ := bnd_some hF
    refine r_callVv cx hP (As := [.int 2]) (w9_fail l Γ ad A 2 σ s1 hc) mw9_59 ⟨Nat.le_of_ble_eq_true rfl, Nat.le_of_ble_eq_true rfl⟩ (dXr (by decide)) rfl rfl rfl (Nat.le_of_ble_eq_true rfl) hl.1 ⟨Nat.zero_le _, Nat.zero_le _⟩ dX9_numberHere_38 (fun H locs hP => ?_)
    refine r_iload_n cx dX9_numberHere_41 (lv_at hl 1 rfl) ?_
    exact r_iret cx hP hr hk dX9_numberHere_42 hF
  refine r_aload_n cx dX9_numberHere_0 (lv_at hl 0 rfl) ?_
  refine gf9_21 cx hP dX9_numberHere_1 ?_
  refine gf9_48 cx hP dX9_numberHere_4 hF (fun v2 hF => ?_)
  refine r_iconst cx 1 dX9_numberHere_7 (by decide) ?_
  refine r_icmp_eq cx 18 dX9_numberHere_8 (by decide) hF (fun hF => ?_) (fun hF => ?_)
  · refine r_aload_n cx dX9_numberHere_18 (lv_at hl 0 rfl) ?_
    refine gf9_21 cx hP dX9_numberHere_19 ?_
    obtain ⟨v3, hc, hF⟩ := bnd_some hF
    refine r_callVi cx hP (As := []) (w6_valueOfNumber l Γ ad A σ v3 hc) mw9_252 ⟨Nat.le_of_ble_eq_true rfl, Nat.le_of_ble_eq_true rfl⟩ (dXr (by decide)) rfl rfl rfl (Nat.le_of_ble_eq_true rfl) hl.1 ⟨Nat.zero_le _, Nat.zero_le _⟩ dX9_numberHere_22 (fun H locs hP => ?_)
    refine r_istore_n cx [(3, .int v3), (0, .ref (ad 0 3)), (1, .int p1), (2, .int p2)] dX9_numberHere_25 hl (by decide) rfl (fun ls hl => ?_)
    refine r_iload_n cx dX9_numberHere_26 (lv_at hl 0 rfl) ?_
    refine r_iload_n cx dX9_numberHere_27 (lv_at hl 2 rfl) ?_
    refine r_icmp_lt cx 36 dX9_numberHere_28 (by decide) hF (fun hF => ?_) (fun hF => ?_)
    · exact b36 v3 σ _ _ _ hP (lv_sub hl [1, 0] rfl) hF
    · refine r_iload_n cx dX9_numberHere_31 (lv_at hl 0 rfl) ?_
      refine r_iload_n cx dX9_numberHere_32 (lv_at hl 3 rfl) ?_
      refine r_icmp_le cx 41 dX9_numberHere_33 (by decide) hF (fun hF => ?_) (fun hF => ?_)
      · refine r_iload_n cx dX9_numberHere_41 (lv_at hl 0 rfl) ?_
        exact r_iret cx hP hr hk dX9_numberHere_42 hF
      · exact b36 v3 σ _ _ _ hP (lv_sub hl [1, 0] rfl) hF
  · refine r_aload_n cx dX9_numberHere_11 (lv_at hl 0 rfl) ?_
    refine r_iconst cx 1 dX9_numberHere_12 (by decide) ?_
    obtain ⟨s4, hc, hF⟩ := bnd_some hF
    refine r_callVv cx hP (As := [.int 1]) (w9_fail l Γ ad A 1 σ s4 hc) mw9_59 ⟨Nat.le_of_ble_eq_true rfl, Nat.le_of_ble_eq_true rfl⟩ (dXr (by decide)) rfl rfl rfl (Nat.le_of_ble_eq_true rfl) hl.1 ⟨Nat.zero_le _, Nat.zero_le _⟩ dX9_numberHere_13 (fun H locs hP => ?_)
    refine r_iload_n cx dX9_numberHere_16 (lv_at hl 1 rfl) ?_
    exact r_iret cx hP hr hk dX9_numberHere_17 hF
set_option maxHeartbeats 4000000 in
set_option maxRecDepth 100000 in
theorem w10_hasRoom (l : Launch) (Γ : Wc) (ad : Nat → Nat → Nat) (A : Nat → Prop) (n : Nat) (hn : n < 11) (σ : Sig) (r : Int32) (hF : f10_hasRoom n σ = some r) : MI l SX Γ ad A yX10_hasRoom cX10_hasRoom 1 (some .boolean) 0 0 [.ref (ad (n + 1) 2)] σ r σ := by
  refine MI.of (by decide) (Nat.le_of_ble_eq_true rfl) ?_
  intro p e s m args below meth c ls cx hr hk hP hl
  have hl : lv_has ls 1 [(0, .ref (ad (n + 1) 2))] := hl
  rw [f10_hasRoom] at hF
  refine r_aload_n cx dX10_hasRoom_0 (lv_at hl 0 rfl) ?_
  refine gf10_15 cx hP hn dX10_hasRoom_1 hF (fun v1 hF => ?_)
  refine r_iconst cx 5 dX10_hasRoom_4 (by decide) ?_
  refine r_icmp_ge cx 12 dX10_hasRoom_5 (by decide) hF (fun hF => ?_) (fun hF => ?_)
  · refine r_iconst cx 0 dX10_hasRoom_12 (by decide) ?_
    exact r_zret cx hP hr hk (by decide) dX10_hasRoom_13 (prF hF)
  · refine r_iconst cx 1 dX10_hasRoom_8 (by decide) ?_
    refine r_goto cx 13 dX10_hasRoom_9 (by decide) ?_
    exact r_zret cx hP hr hk (by decide) dX10_hasRoom_13 (prF hF)
set_option maxHeartbeats 4000000 in
set_option maxRecDepth 100000 in
theorem w10_add (l : Launch) (Γ : Wc) (ad : Nat → Nat → Nat) (A : Nat → Prop) (n : Nat) (hn : n < 11) (p1 : Int32) (σ : Sig) (σ1 : Sig) (hF : f10_add n p1 σ = some σ1) : MV l SX Γ ad A yX10_add cX10_add 2 0 0 [.ref (ad (n + 1) 2), .int p1] σ σ1 := by
  refine MV.of (by decide) (Nat.le_of_ble_eq_true rfl) ?_
  intro p e s m args below meth c ls cx hr hk hP hl
  have hl : lv_has ls 2 [(0, .ref (ad (n + 1) 2)), (1, .int p1)] := hl
  rw [f10_add] at hF
  refine r_aload_n cx dX10_add_0 (lv_at hl 0 rfl) ?_
  refine gf10_9 cx hP hn dX10_add_1 ?_
  refine r_aload_n cx dX10_add_4 (lv_at hl 0 rfl) ?_
  refine gf10_15 cx hP hn dX10_add_5 hF (fun v1 hF => ?_)
  refine r_iload_n cx dX10_add_8 (lv_at hl 1 rfl) ?_
  refine r_iast cx hP (dXg hn (by decide)) (fun _ => rfl) dX10_add_9 hF (fun s2 H locs hP hF => ?_)
  refine r_aload_n cx dX10_add_10 (lv_at hl 0 rfl) ?_
  refine r_dup cx dX10_add_11 rfl ?_
  refine gf10_15 cx hP hn dX10_add_12 hF (fun v3 hF => ?_)
  refine r_iconst cx 1 dX10_add_15 (by decide) ?_
  refine r_iadd cx dX10_add_16 hF (fun v4 hF => ?_)
  refine pf10_15 cx hP hn dX10_add_17 hF (fun s5 H locs hP hF => ?_)
  exact r_vret cx hP hr hk dX10_add_20 hF
set_option maxHeartbeats 4000000 in
set_option maxRecDepth 100000 in
theorem w9_readPrice (l : Launch) (Γ : Wc) (ad : Nat → Nat → Nat) (A : Nat → Prop)  (σ : Sig) (σ1 : Sig) (hF : f9_readPrice  σ = some σ1) : MV l SX Γ ad A yX9_readPrice cX9_readPrice 2 2 45 [.ref (ad 0 3)] σ σ1 := by
  refine MV.of (by decide) (Nat.le_of_ble_eq_true rfl) ?_
  intro p e s m args below meth c ls cx hr hk hP hl
  have hl : lv_has ls 2 [(0, .ref (ad 0 3))] := hl
  rw [f9_readPrice] at hF
  generalize hH0 : s.heap = H0 at hP ⊢
  generalize ([] : List Loc) = locs0 at hP ⊢
  clear hH0
  have b26 : ∀ (x1 : Int32) (σ : Sig) (H : Heap) (locs : List Loc) (ls : Array Slot), PS SX Γ ad A s σ H locs → lv_has ls 2 [(0, .ref (ad 0 3)), (1, .int x1)] → f9_readPrice_b26 x1 σ = some σ1 → W p l e (rmz 2 45) s m args below meth c H locs 0 0 (QV SX Γ ad A below args s σ1) (F0 m 26 ls []) := by
    intro x1 σ H locs ls hP hl hF
    rw [f9_readPrice_b26] at hF
    refine r_aload_n cx dX9_readPrice_26 (lv_at hl 0 rfl) ?_
    refine gf9_25 cx hP dX9_readPrice_27 hF (fun v1 hF => ?_)
    refine r_if_ne cx 51 dX9_readPrice_30 (by decide) hF (fun hF => ?_) (fun hF => ?_)
    · exact r_vret cx hP hr hk dX9_readPrice_51 hF
    · refine r_aload_n cx dX9_readPrice_33 (lv_at hl 0 rfl) ?_
      refine gf9_12 cx hP dX9_readPrice_34 ?_
      refine gf9_76 cx hP (by decide : 10 < 11) dX9_readPrice_37 ?_
      refine r_iload_n cx dX9_readPrice_40 (lv_at hl 1 rfl) ?_
      obtain ⟨s2, hc, hF⟩ := bnd_some hF
      refine r_callVv cx hP (As := [.int x1]) (w10_add l Γ ad A 10 (by decide : 10 < 11) x1 σ s2 hc) mw9_85 ⟨Nat.le_of_ble_eq_true rfl, Nat.le_of_ble_eq_true rfl⟩ (dXg (by decide : 10 < 11) (by decide)) rfl rfl rfl (Nat.le_of_ble_eq_true rfl) hl.1 ⟨Nat.zero_le _, Nat.zero_le _⟩ dX9_readPrice_41 (fun H locs hP => ?_)
      refine r_aload_n cx dX9_readPrice_44 (lv_at hl 0 rfl) ?_
      refine gf9_21 cx hP dX9_readPrice_45 ?_
      obtain ⟨s3, hc, hF⟩ := bnd_some hF
      refine r_callVv cx hP (As := []) (w6_readNext l Γ ad A s2 s3 hc) mw9_63 ⟨Nat.le_of_ble_eq_true rfl, Nat.le_of_ble_eq_true rfl⟩ (dXr (by decide)) rfl rfl rfl (Nat.le_of_ble_eq_true rfl) hl.1 ⟨Nat.zero_le _, Nat.zero_le _⟩ dX9_readPrice_48 (fun H locs hP => ?_)
      exact r_vret cx hP hr hk dX9_readPrice_51 hF
  refine r_aload_n cx dX9_readPrice_0 (lv_at hl 0 rfl) ?_
  refine r_iconst cx 1 dX9_readPrice_1 (by decide) ?_
  refine r_bipush cx 99 dX9_readPrice_2 (by decide) ?_
  obtain ⟨v4, s5, hc, hF⟩ := bns_some hF
  refine r_callVi cx hP (As := [.int 1, .int 99]) (w9_numberHere l Γ ad A 1 99 σ v4 s5 hc) mw9_72 ⟨Nat.le_of_ble_eq_true rfl, Nat.le_of_ble_eq_true rfl⟩ (dXr (by decide)) rfl rfl rfl (Nat.le_of_ble_eq_true rfl) hl.1 ⟨Nat.zero_le _, Nat.zero_le _⟩ dX9_readPrice_4 (fun H locs hP => ?_)
  refine r_istore_n cx [(1, .int v4), (0, .ref (ad 0 3))] dX9_readPrice_7 hl (by decide) rfl (fun ls hl => ?_)
  refine r_aload_n cx dX9_readPrice_8 (lv_at hl 1 rfl) ?_
  refine gf9_12 cx hP dX9_readPrice_9 ?_
  refine gf9_76 cx hP (by decide : 10 < 11) dX9_readPrice_12 ?_
  obtain ⟨v6, hc, hF⟩ := bnd_some hF
  refine r_callVi cx hP (As := []) (w10_hasRoom l Γ ad A 10 (by decide : 10 < 11) s5 v6 hc) mw9_80 ⟨Nat.le_of_ble_eq_true rfl, Nat.le_of_ble_eq_true rfl⟩ (dXg (by decide : 10 < 11) (by decide)) rfl rfl rfl (Nat.le_of_ble_eq_true rfl) hl.1 ⟨Nat.zero_le _, Nat.zero_le _⟩ dX9_readPrice_15 (fun H locs hP => ?_)
  refine r_if_ne cx 26 dX9_readPrice_18 (by decide) hF (fun hF => ?_) (fun hF => ?_)
  · exact b26 v4 s5 _ _ _ hP (lv_sub hl [1, 0] rfl) hF
  · refine r_aload_n cx dX9_readPrice_21 (lv_at hl 1 rfl) ?_
    refine r_iconst cx 3 dX9_readPrice_22 (by decide) ?_
    obtain ⟨s7, hc, hF⟩ := bnd_some hF
    refine r_callVv cx hP (As := [.int 3]) (w9_fail l Γ ad A 3 s5 s7 hc) mw9_59 ⟨Nat.le_of_ble_eq_true rfl, Nat.le_of_ble_eq_true rfl⟩ (dXr (by decide)) rfl rfl rfl (Nat.le_of_ble_eq_true rfl) hl.1 ⟨Nat.zero_le _, Nat.zero_le _⟩ dX9_readPrice_23 (fun H locs hP => ?_)
    exact b26 v4 s7 _ _ _ hP (lv_sub hl [1, 0] rfl) hF
set_option maxHeartbeats 4000000 in
set_option maxRecDepth 100000 in
theorem w9_isAtSemicolon (l : Launch) (Γ : Wc) (ad : Nat → Nat → Nat) (A : Nat → Prop)  (σ : Sig) (r : Int32) (σ1 : Sig) (hF : f9_isAtSemicolon  σ = some (r, σ1)) : MI l SX Γ ad A yX9_isAtSemicolon cX9_isAtSemicolon 1 (some .boolean) 1 21 [.ref (ad 0 3)] σ r σ1 := by
  refine MI.of (by decide) (Nat.le_of_ble_eq_true rfl) ?_
  intro p e s m args below meth c ls cx hr hk hP hl
  have hl : lv_has ls 1 [(0, .ref (ad 0 3))] := hl
  rw [f9_isAtSemicolon] at hF
  generalize hH0 : s.heap = H0 at hP ⊢
  generalize ([] : List Loc) = locs0 at hP ⊢
  clear hH0
  have b16 : ∀ (σ : Sig) (H : Heap) (locs : List Loc) (ls : Array Slot), PS SX Γ ad A s σ H locs → lv_has ls 1 [(0, .ref (ad 0 3))] → f9_isAtSemicolon_b16 σ = some (r, σ1) → W p l e (rmz 1 21) s m args below meth c H locs 0 0 (QI SX Γ ad A below args s r σ1) (F0 m 16 ls []) := by
    intro σ H locs ls hP hl hF
    rw [f9_isAtSemicolon_b16] at hF
    refine r_aload_n cx dX9_isAtSemicolon_16 (lv_at hl 0 rfl) ?_
    refine gf9_25 cx hP dX9_isAtSemicolon_17 hF (fun v1 hF => ?_)
    refine r_if_ne cx 27 dX9_isAtSemicolon_20 (by decide) hF (fun hF => ?_) (fun hF => ?_)
    · refine r_iconst cx 0 dX9_isAtSemicolon_27 (by decide) ?_
      exact r_zret cx hP hr hk (by decide) dX9_isAtSemicolon_28 hF
    · refine r_iconst cx 1 dX9_isAtSemicolon_23 (by decide) ?_
      refine r_goto cx 28 dX9_isAtSemicolon_24 (by decide) ?_
      exact r_zret cx hP hr hk (by decide) dX9_isAtSemicolon_28 hF
  refine r_aload_n cx dX9_isAtSemicolon_0 (lv_at hl 0 rfl) ?_
  refine gf9_21 cx hP dX9_isAtSemicolon_1 ?_
  refine gf9_48 cx hP dX9_isAtSemicolon_4 hF (fun v2 hF => ?_)
  refine r_iconst cx 2 dX9_isAtSemicolon_7 (by decide) ?_
  refine r_icmp_eq cx 16 dX9_isAtSemicolon_8 (by decide) hF (fun hF => ?_) (fun hF => ?_)
  · exact b16 σ _ _ _ hP (lv_sub hl [0] rfl) hF
  · refine r_aload_n cx dX9_isAtSemicolon_11 (lv_at hl 0 rfl) ?_
    refine r_iconst cx 1 dX9_isAtSemicolon_12 (by decide) ?_
    obtain ⟨s3, hc, hF⟩ := bnd_some hF
    refine r_callVv cx hP (As := [.int 1]) (w9_fail l Γ ad A 1 σ s3 hc) mw9_59 ⟨Nat.le_of_ble_eq_true rfl, Nat.le_of_ble_eq_true rfl⟩ (dXr (by decide)) rfl rfl rfl (Nat.le_of_ble_eq_true rfl) hl.1 ⟨Nat.zero_le _, Nat.zero_le _⟩ dX9_isAtSemicolon_13 (fun H locs hP => ?_)
    exact b16 s3 _ _ _ hP (lv_sub hl [0] rfl) hF
set_option maxHeartbeats 4000000 in
set_option maxRecDepth 100000 in
theorem w9_readGarden (l : Launch) (Γ : Wc) (ad : Nat → Nat → Nat) (A : Nat → Prop)  (σ : Sig) (σ1 : Sig) (hF : f9_readGarden  σ = some σ1) : MV l SX Γ ad A yX9_readGarden cX9_readGarden 2 5 108 [.ref (ad 0 3)] σ σ1 := by
  refine MV.of (by decide) (Nat.le_of_ble_eq_true rfl) ?_
  intro p e s m args below meth c ls cx hr hk hP hl
  have hl : lv_has ls 2 [(0, .ref (ad 0 3))] := hl
  rw [f9_readGarden] at hF
  generalize hH0 : s.heap = H0 at hP ⊢
  generalize ([] : List Loc) = locs0 at hP ⊢
  clear hH0
  have b64 : ∀ (σ : Sig) (H : Heap) (locs : List Loc) (ls : Array Slot), PS SX Γ ad A s σ H locs → lv_has ls 2 [(0, .ref (ad 0 3))] → f9_readGarden_b64 σ = some σ1 → W p l e (rmz 5 108) s m args below meth c H locs 0 0 (QV SX Γ ad A below args s σ1) (F0 m 64 ls []) := by
    intro σ H locs ls hP hl hF
    rw [f9_readGarden_b64] at hF
    refine r_aload_n cx dX9_readGarden_64 (lv_at hl 0 rfl) ?_
    obtain ⟨v1, s2, hc, hF⟩ := bns_some hF
    refine r_callVi cx hP (As := []) (w9_isAtSemicolon l Γ ad A σ v1 s2 hc) mw9_69 ⟨Nat.le_of_ble_eq_true rfl, Nat.le_of_ble_eq_true rfl⟩ (dXr (by decide)) rfl rfl rfl (Nat.le_of_ble_eq_true rfl) hl.1 ⟨Nat.zero_le _, Nat.zero_le _⟩ dX9_readGarden_65 (fun H locs hP => ?_)
    refine r_if_eq cx 78 dX9_readGarden_68 (by decide) hF (fun hF => ?_) (fun hF => ?_)
    · exact r_vret cx hP hr hk dX9_readGarden_78 hF
    · refine r_aload_n cx dX9_readGarden_71 (lv_at hl 0 rfl) ?_
      refine gf9_21 cx hP dX9_readGarden_72 ?_
      obtain ⟨s3, hc, hF⟩ := bnd_some hF
      refine r_callVv cx hP (As := []) (w6_readNext l Γ ad A s2 s3 hc) mw9_63 ⟨Nat.le_of_ble_eq_true rfl, Nat.le_of_ble_eq_true rfl⟩ (dXr (by decide)) rfl rfl rfl (Nat.le_of_ble_eq_true rfl) hl.1 ⟨Nat.zero_le _, Nat.zero_le _⟩ dX9_readGarden_75 (fun H locs hP => ?_)
      exact r_vret cx hP hr hk dX9_readGarden_78 hF
  have b31 : ∀ (fu : Nat) (x1 : Int32) (σ : Sig) (H : Heap) (locs : List Loc) (ls : Array Slot), PS SX Γ ad A s σ H locs → lv_has ls 2 [(0, .ref (ad 0 3)), (1, .int x1)] → f9_readGarden_b31 fu x1 σ = some σ1 → W p l e (rmz 5 108) s m args below meth c H locs 0 0 (QV SX Γ ad A below args s σ1) (F0 m 31 ls []) := by
    intro fu
    induction fu with
    | zero => intro x1 σ H locs ls hP hl hF; exact nofu hF
    | succ fu ih =>
      intro x1 σ H locs ls hP hl hF
      rw [f9_readGarden_b31] at hF
      refine r_iload_n cx dX9_readGarden_31 (lv_at hl 1 rfl) ?_
      refine r_iconst cx 5 dX9_readGarden_32 (by decide) ?_
      refine r_icmp_gt cx 64 dX9_readGarden_33 (by decide) hF (fun hF => ?_) (fun hF => ?_)
      · exact b64 σ _ _ _ hP (lv_sub hl [0] rfl) hF
      · refine r_aload_n cx dX9_readGarden_36 (lv_at hl 0 rfl) ?_
        refine gf9_25 cx hP dX9_readGarden_37 hF (fun v4 hF => ?_)
        refine r_if_ne cx 64 dX9_readGarden_40 (by decide) hF (fun hF => ?_) (fun hF => ?_)
        · exact b64 σ _ _ _ hP (lv_sub hl [0] rfl) hF
        · refine r_aload_n cx dX9_readGarden_43 (lv_at hl 0 rfl) ?_
          refine gf9_21 cx hP dX9_readGarden_44 ?_
          refine gf9_48 cx hP dX9_readGarden_47 hF (fun v5 hF => ?_)
          refine r_iconst cx 1 dX9_readGarden_50 (by decide) ?_
          refine r_icmp_ne cx 64 dX9_readGarden_51 (by decide) hF (fun hF => ?_) (fun hF => ?_)
          · exact b64 σ _ _ _ hP (lv_sub hl [0] rfl) hF
          · refine r_aload_n cx dX9_readGarden_54 (lv_at hl 0 rfl) ?_
            obtain ⟨s6, hc, hF⟩ := bnd_some hF
            refine r_callVv cx hP (As := []) (w9_readPrice l Γ ad A σ s6 hc) mw9_66 ⟨Nat.le_of_ble_eq_true rfl, Nat.le_of_ble_eq_true rfl⟩ (dXr (by decide)) rfl rfl rfl (Nat.le_of_ble_eq_true rfl) hl.1 ⟨Nat.zero_le _, Nat.zero_le _⟩ dX9_readGarden_55 (fun H locs hP => ?_)
            refine r_iinc cx (k := 1) (w := 1) (fun v7 => [(1, .int v7), (0, .ref (ad 0 3))]) dX9_readGarden_58 hl rfl (by decide) (by decide) hF (fun _ => rfl) (fun v7 ls hF hl => ?_)
            refine r_goto cx 31 dX9_readGarden_61 (by decide) ?_
            exact ih v7 s6 _ _ _ hP (lv_sub hl [1, 0] rfl) hF
  refine r_aload_n cx dX9_readGarden_0 (lv_at hl 0 rfl) ?_
  refine gf9_21 cx hP dX9_readGarden_1 ?_
  refine r_ldc cx (k := 1) (by decide) (by decide) dX9_readGarden_4 ?_
  obtain ⟨v8, hc, hF⟩ := bnd_some hF
  refine r_callVi cx hP (As := [.ref (Γ.2.2.1 1)]) (w6_isWord l Γ ad A 1 (by decide) σ v8 hc) mw9_55 ⟨Nat.le_of_ble_eq_true rfl, Nat.le_of_ble_eq_true rfl⟩ (dXr (by decide)) rfl rfl rfl (Nat.le_of_ble_eq_true rfl) hl.1 ⟨Nat.zero_le _, Nat.zero_le _⟩ dX9_readGarden_6 (fun H locs hP => ?_)
  refine r_if_ne cx 18 dX9_readGarden_9 (by decide) hF (fun hF => ?_) (fun hF => ?_)
  · refine r_aload_n cx dX9_readGarden_18 (lv_at hl 0 rfl) ?_
    refine gf9_21 cx hP dX9_readGarden_19 ?_
    obtain ⟨s9, hc, hF⟩ := bnd_some hF
    refine r_callVv cx hP (As := []) (w6_readNext l Γ ad A σ s9 hc) mw9_63 ⟨Nat.le_of_ble_eq_true rfl, Nat.le_of_ble_eq_true rfl⟩ (dXr (by decide)) rfl rfl rfl (Nat.le_of_ble_eq_true rfl) hl.1 ⟨Nat.zero_le _, Nat.zero_le _⟩ dX9_readGarden_22 (fun H locs hP => ?_)
    refine r_aload_n cx dX9_readGarden_25 (lv_at hl 0 rfl) ?_
    obtain ⟨s10, hc, hF⟩ := bnd_some hF
    refine r_callVv cx hP (As := []) (w9_readPrice l Γ ad A s9 s10 hc) mw9_66 ⟨Nat.le_of_ble_eq_true rfl, Nat.le_of_ble_eq_true rfl⟩ (dXr (by decide)) rfl rfl rfl (Nat.le_of_ble_eq_true rfl) hl.1 ⟨Nat.zero_le _, Nat.zero_le _⟩ dX9_readGarden_26 (fun H locs hP => ?_)
    refine r_iconst cx 1 dX9_readGarden_29 (by decide) ?_
    refine r_istore_n cx [(1, .int 1), (0, .ref (ad 0 3))] dX9_readGarden_30 hl (by decide) rfl (fun ls hl => ?_)
    exact b31 FU 1 s10 _ _ _ hP (lv_sub hl [1, 0] rfl) hF
  · refine r_aload_n cx dX9_readGarden_12 (lv_at hl 0 rfl) ?_
    refine r_iconst cx 1 dX9_readGarden_13 (by decide) ?_
    obtain ⟨s11, hc, hF⟩ := bnd_some hF
    refine r_callVv cx hP (As := [.int 1]) (w9_fail l Γ ad A 1 σ s11 hc) mw9_59 ⟨Nat.le_of_ble_eq_true rfl, Nat.le_of_ble_eq_true rfl⟩ (dXr (by decide)) rfl rfl rfl (Nat.le_of_ble_eq_true rfl) hl.1 ⟨Nat.zero_le _, Nat.zero_le _⟩ dX9_readGarden_14 (fun H locs hP => ?_)
    exact r_vret cx hP hr hk dX9_readGarden_17 hF
set_option maxHeartbeats 4000000 in
set_option maxRecDepth 100000 in
theorem w9_goesOn (l : Launch) (Γ : Wc) (ad : Nat → Nat → Nat) (A : Nat → Prop)  (σ : Sig) (r : Int32) (hF : f9_goesOn  σ = some r) : MI l SX Γ ad A yX9_goesOn cX9_goesOn 1 (some .boolean) 0 0 [.ref (ad 0 3)] σ r σ := by
  refine MI.of (by decide) (Nat.le_of_ble_eq_true rfl) ?_
  intro p e s m args below meth c ls cx hr hk hP hl
  have hl : lv_has ls 1 [(0, .ref (ad 0 3))] := hl
  rw [f9_goesOn] at hF
  refine r_aload_n cx dX9_goesOn_0 (lv_at hl 0 rfl) ?_
  refine gf9_25 cx hP dX9_goesOn_1 hF (fun v1 hF => ?_)
  refine r_if_ne cx 22 dX9_goesOn_4 (by decide) hF (fun hF => ?_) (fun hF => ?_)
  · refine r_iconst cx 0 dX9_goesOn_22 (by decide) ?_
    exact r_zret cx hP hr hk (by decide) dX9_goesOn_23 (prF hF)
  · refine r_aload_n cx dX9_goesOn_7 (lv_at hl 0 rfl) ?_
    refine gf9_21 cx hP dX9_goesOn_8 ?_
    refine gf9_48 cx hP dX9_goesOn_11 hF (fun v2 hF => ?_)
    refine r_iconst cx 3 dX9_goesOn_14 (by decide) ?_
    refine r_icmp_eq cx 22 dX9_goesOn_15 (by decide) hF (fun hF => ?_) (fun hF => ?_)
    · refine r_iconst cx 0 dX9_goesOn_22 (by decide) ?_
      exact r_zret cx hP hr hk (by decide) dX9_goesOn_23 (prF hF)
    · refine r_iconst cx 1 dX9_goesOn_18 (by decide) ?_
      refine r_goto cx 23 dX9_goesOn_19 (by decide) ?_
      exact r_zret cx hP hr hk (by decide) dX9_goesOn_23 (prF hF)
set_option maxHeartbeats 4000000 in
set_option maxRecDepth 100000 in
theorem w9_nextNumber (l : Launch) (Γ : Wc) (ad : Nat → Nat → Nat) (A : Nat → Prop) (p1 : Int32) (p2 : Int32) (σ : Sig) (r : Int32) (σ1 : Sig) (hF : f9_nextNumber p1 p2 σ = some (r, σ1)) : MI l SX Γ ad A yX9_nextNumber cX9_nextNumber 3 (some .int) 2 45 [.ref (ad 0 3), .int p1, .int p2] σ r σ1 := by
  refine MI.of (by decide) (Nat.le_of_ble_eq_true rfl) ?_
  intro p e s m args below meth c ls cx hr hk hP hl
  have hl : lv_has ls 3 [(0, .ref (ad 0 3)), (1, .int p1), (2, .int p2)] := hl
  rw [f9_nextNumber] at hF
  generalize hH0 : s.heap = H0 at hP ⊢
  generalize ([] : List Loc) = locs0 at hP ⊢
  clear hH0
  have b14 : ∀ (x1 : Int32) (x2 : Int32) (σ : Sig) (H : Heap) (locs : List Loc) (ls : Array Slot), PS SX Γ ad A s σ H locs → lv_has ls 3 [(0, .ref (ad 0 3)), (1, .int x1), (2, .int x2)] → f9_nextNumber_b14 x1 x2 σ = some (r, σ1) → W p l e (rmz 2 45) s m args below meth c H locs 0 0 (QI SX Γ ad A below args s r σ1) (F0 m 14 ls []) := by
    intro x1 x2 σ H locs ls hP hl hF
    rw [f9_nextNumber_b14] at hF
    refine r_aload_n cx dX9_nextNumber_14 (lv_at hl 0 rfl) ?_
    refine r_iload_n cx dX9_nextNumber_15 (lv_at hl 1 rfl) ?_
    refine r_iload_n cx dX9_nextNumber_16 (lv_at hl 2 rfl) ?_
    obtain ⟨v1, s2, hc, hF⟩ := bns_some hF
    refine r_callVi cx hP (As := [.int x1, .int x2]) (w9_numberHere l Γ ad A x1 x2 σ v1 s2 hc) mw9_72 ⟨Nat.le_of_ble_eq_true rfl, Nat.le_of_ble_eq_true rfl⟩ (dXr (by decide)) rfl rfl rfl (Nat.le_of_ble_eq_true rfl) hl.1 ⟨Nat.zero_le _, Nat.zero_le _⟩ dX9_nextNumber_17 (fun H locs hP => ?_)
    exact r_iret cx hP hr hk dX9_nextNumber_20 hF
  refine r_aload_n cx dX9_nextNumber_0 (lv_at hl 0 rfl) ?_
  refine gf9_25 cx hP dX9_nextNumber_1 hF (fun v3 hF => ?_)
  refine r_if_ne cx 14 dX9_nextNumber_4 (by decide) hF (fun hF => ?_) (fun hF => ?_)
  · exact b14 p1 p2 σ _ _ _ hP (lv_sub hl [0, 1, 2] rfl) hF
  · refine r_aload_n cx dX9_nextNumber_7 (lv_at hl 0 rfl) ?_
    refine gf9_21 cx hP dX9_nextNumber_8 ?_
    obtain ⟨s4, hc, hF⟩ := bnd_some hF
    refine r_callVv cx hP (As := []) (w6_readNext l Γ ad A σ s4 hc) mw9_63 ⟨Nat.le_of_ble_eq_true rfl, Nat.le_of_ble_eq_true rfl⟩ (dXr (by decide)) rfl rfl rfl (Nat.le_of_ble_eq_true rfl) hl.1 ⟨Nat.zero_le _, Nat.zero_le _⟩ dX9_nextNumber_11 (fun H locs hP => ?_)
    exact b14 p1 p2 s4 _ _ _ hP (lv_sub hl [0, 1, 2] rfl) hF
set_option maxHeartbeats 4000000 in
set_option maxRecDepth 100000 in
theorem w9_isComplete (l : Launch) (Γ : Wc) (ad : Nat → Nat → Nat) (A : Nat → Prop)  (σ : Sig) (r : Int32) (σ1 : Sig) (hF : f9_isComplete  σ = some (r, σ1)) : MI l SX Γ ad A yX9_isComplete cX9_isComplete 1 (some .boolean) 2 41 [.ref (ad 0 3)] σ r σ1 := by
  refine MI.of (by decide) (Nat.le_of_ble_eq_true rfl) ?_
  intro p e s m args below meth c ls cx hr hk hP hl
  have hl : lv_has ls 1 [(0, .ref (ad 0 3))] := hl
  rw [f9_isComplete] at hF
  generalize hH0 : s.heap = H0 at hP ⊢
  generalize ([] : List Loc) = locs0 at hP ⊢
  clear hH0
  have b14 : ∀ (σ : Sig) (H : Heap) (locs : List Loc) (ls : Array Slot), PS SX Γ ad A s σ H locs → lv_has ls 1 [(0, .ref (ad 0 3))] → f9_isComplete_b14 σ = some (r, σ1) → W p l e (rmz 2 41) s m args below meth c H locs 0 0 (QI SX Γ ad A below args s r σ1) (F0 m 14 ls []) := by
    intro σ H locs ls hP hl hF
    rw [f9_isComplete_b14] at hF
    refine r_aload_n cx dX9_isComplete_14 (lv_at hl 0 rfl) ?_
    obtain ⟨v1, s2, hc, hF⟩ := bns_some hF
    refine r_callVi cx hP (As := []) (w9_isAtSemicolon l Γ ad A σ v1 s2 hc) mw9_69 ⟨Nat.le_of_ble_eq_true rfl, Nat.le_of_ble_eq_true rfl⟩ (dXr (by decide)) rfl rfl rfl (Nat.le_of_ble_eq_true rfl) hl.1 ⟨Nat.zero_le _, Nat.zero_le _⟩ dX9_isComplete_15 (fun H locs hP => ?_)
    exact r_zret cx hP hr hk (nar_gz (gz_some hF).1) dX9_isComplete_18 (gz_some hF).2
  refine r_aload_n cx dX9_isComplete_0 (lv_at hl 0 rfl) ?_
  refine gf9_25 cx hP dX9_isComplete_1 hF (fun v3 hF => ?_)
  refine r_if_ne cx 14 dX9_isComplete_4 (by decide) hF (fun hF => ?_) (fun hF => ?_)
  · exact b14 σ _ _ _ hP (lv_sub hl [0] rfl) hF
  · refine r_aload_n cx dX9_isComplete_7 (lv_at hl 0 rfl) ?_
    refine gf9_21 cx hP dX9_isComplete_8 ?_
    obtain ⟨s4, hc, hF⟩ := bnd_some hF
    refine r_callVv cx hP (As := []) (w6_readNext l Γ ad A σ s4 hc) mw9_63 ⟨Nat.le_of_ble_eq_true rfl, Nat.le_of_ble_eq_true rfl⟩ (dXr (by decide)) rfl rfl rfl (Nat.le_of_ble_eq_true rfl) hl.1 ⟨Nat.zero_le _, Nat.zero_le _⟩ dX9_isComplete_11 (fun H locs hP => ?_)
    exact b14 s4 _ _ _ hP (lv_sub hl [0] rfl) hF
set_option maxHeartbeats 4000000 in
set_option maxRecDepth 100000 in
theorem w0_hasRoom (l : Launch) (Γ : Wc) (ad : Nat → Nat → Nat) (A : Nat → Prop) (n : Nat) (hn : n < 11) (σ : Sig) (r : Int32) (hF : f0_hasRoom n σ = some r) : MI l SX Γ ad A yX0_hasRoom cX0_hasRoom 1 (some .boolean) 0 0 [.ref (ad (n + 1) 3)] σ r σ := by
  refine MI.of (by decide) (Nat.le_of_ble_eq_true rfl) ?_
  intro p e s m args below meth c ls cx hr hk hP hl
  have hl : lv_has ls 1 [(0, .ref (ad (n + 1) 3))] := hl
  rw [f0_hasRoom] at hF
  refine r_aload_n cx dX0_hasRoom_0 (lv_at hl 0 rfl) ?_
  refine gf0_33 cx hP hn dX0_hasRoom_1 hF (fun v1 hF => ?_)
  refine r_bipush cx 8 dX0_hasRoom_4 (by decide) ?_
  refine r_icmp_ge cx 13 dX0_hasRoom_6 (by decide) hF (fun hF => ?_) (fun hF => ?_)
  · refine r_iconst cx 0 dX0_hasRoom_13 (by decide) ?_
    exact r_zret cx hP hr hk (by decide) dX0_hasRoom_14 (prF hF)
  · refine r_iconst cx 1 dX0_hasRoom_9 (by decide) ?_
    refine r_goto cx 14 dX0_hasRoom_10 (by decide) ?_
    exact r_zret cx hP hr hk (by decide) dX0_hasRoom_14 (prF hF)
set_option maxHeartbeats 4000000 in
set_option maxRecDepth 100000 in
theorem w9_executes (l : Launch) (Γ : Wc) (ad : Nat → Nat → Nat) (A : Nat → Prop) (p1 : Int32) (σ : Sig) (r : Int32) (σ1 : Sig) (hF : f9_executes p1 σ = some (r, σ1)) : MI l SX Γ ad A yX9_executes cX9_executes 2 (some .boolean) 1 21 [.ref (ad 0 3), .int p1] σ r σ1 := by
  refine MI.of (by decide) (Nat.le_of_ble_eq_true rfl) ?_
  intro p e s m args below meth c ls cx hr hk hP hl
  have hl : lv_has ls 2 [(0, .ref (ad 0 3)), (1, .int p1)] := hl
  rw [f9_executes] at hF
  refine r_iload_n cx dX9_executes_0 (lv_at hl 1 rfl) ?_
  refine r_if_ne cx 9 dX9_executes_1 (by decide) hF (fun hF => ?_) (fun hF => ?_)
  · refine r_iload_n cx dX9_executes_9 (lv_at hl 1 rfl) ?_
    exact r_zret cx hP hr hk (nar_gz (gz_some hF).1) dX9_executes_10 (gz_some hF).2
  · refine r_aload_n cx dX9_executes_4 (lv_at hl 0 rfl) ?_
    refine r_iconst cx 4 dX9_executes_5 (by decide) ?_
    obtain ⟨s1, hc, hF⟩ := bnd_some hF
    refine r_callVv cx hP (As := [.int 4]) (w9_fail l Γ ad A 4 σ s1 hc) mw9_59 ⟨Nat.le_of_ble_eq_true rfl, Nat.le_of_ble_eq_true rfl⟩ (dXr (by decide)) rfl rfl rfl (Nat.le_of_ble_eq_true rfl) hl.1 ⟨Nat.zero_le _, Nat.zero_le _⟩ dX9_executes_6 (fun H locs hP => ?_)
    refine r_iload_n cx dX9_executes_9 (lv_at hl 1 rfl) ?_
    exact r_zret cx hP hr hk (nar_gz (gz_some hF).1) dX9_executes_10 (gz_some hF).2
set_option maxHeartbeats 4000000 in
set_option maxRecDepth 100000 in
theorem w0_add (l : Launch) (Γ : Wc) (ad : Nat → Nat → Nat) (A : Nat → Prop) (n : Nat) (hn : n < 11) (p1 : Int32) (p2 : Int32) (p3 : Int32) (p4 : Int32) (σ : Sig) (r : Int32) (σ1 : Sig) (hF : f0_add n p1 p2 p3 p4 σ = some (r, σ1)) : MI l SX Γ ad A yX0_add cX0_add 6 (some .int) 0 0 [.ref (ad (n + 1) 3), .int p1, .int p2, .int p3, .int p4] σ r σ1 := by
  refine MI.of (by decide) (Nat.le_of_ble_eq_true rfl) ?_
  intro p e s m args below meth c ls cx hr hk hP hl
  have hl : lv_has ls 6 [(0, .ref (ad (n + 1) 3)), (1, .int p1), (2, .int p2), (3, .int p3), (4, .int p4)] := hl
  rw [f0_add] at hF
  refine r_aload_n cx dX0_add_0 (lv_at hl 0 rfl) ?_
  refine gf0_33 cx hP hn dX0_add_1 hF (fun v1 hF => ?_)
  refine r_istore cx [(5, .int v1), (0, .ref (ad (n + 1) 3)), (1, .int p1), (2, .int p2), (3, .int p3), (4, .int p4)] dX0_add_4 hl (by decide) rfl (fun ls hl => ?_)
  refine r_aload_n cx dX0_add_6 (lv_at hl 1 rfl) ?_
  refine gf0_9 cx hP hn dX0_add_7 ?_
  refine r_iload cx dX0_add_10 (lv_at hl 0 rfl) ?_
  refine r_iload_n cx dX0_add_12 (lv_at hl 2 rfl) ?_
  refine r_iast cx hP (dXg hn (by decide)) (fun _ => rfl) dX0_add_13 hF (fun s2 H locs hP hF => ?_)
  refine r_aload_n cx dX0_add_14 (lv_at hl 1 rfl) ?_
  refine gf0_15 cx hP hn dX0_add_15 ?_
  refine r_iload cx dX0_add_18 (lv_at hl 0 rfl) ?_
  refine r_iload_n cx dX0_add_20 (lv_at hl 3 rfl) ?_
  refine r_iast cx hP (dXg hn (by decide)) (fun _ => rfl) dX0_add_21 hF (fun s3 H locs hP hF => ?_)
  refine r_aload_n cx dX0_add_22 (lv_at hl 1 rfl) ?_
  refine gf0_18 cx hP hn dX0_add_23 ?_
  refine r_iload cx dX0_add_26 (lv_at hl 0 rfl) ?_
  refine r_iload_n cx dX0_add_28 (lv_at hl 4 rfl) ?_
  refine r_iast cx hP (dXg hn (by decide)) (fun _ => rfl) dX0_add_29 hF (fun s4 H locs hP hF => ?_)
  refine r_aload_n cx dX0_add_30 (lv_at hl 1 rfl) ?_
  refine gf0_21 cx hP hn dX0_add_31 ?_
  refine r_iload cx dX0_add_34 (lv_at hl 0 rfl) ?_
  refine r_iload cx dX0_add_36 (lv_at hl 5 rfl) ?_
  refine r_iast cx hP (dXg hn (by decide)) (fun _ => rfl) dX0_add_38 hF (fun s5 H locs hP hF => ?_)
  refine r_aload_n cx dX0_add_39 (lv_at hl 1 rfl) ?_
  refine gf0_24 cx hP hn dX0_add_40 ?_
  refine r_iload cx dX0_add_43 (lv_at hl 0 rfl) ?_
  refine r_bipush cx 20 dX0_add_45 (by decide) ?_
  refine r_iast cx hP (dXg hn (by decide)) (fun _ => rfl) dX0_add_47 hF (fun s6 H locs hP hF => ?_)
  refine r_aload_n cx dX0_add_48 (lv_at hl 1 rfl) ?_
  refine gf0_27 cx hP hn dX0_add_49 ?_
  refine r_iload cx dX0_add_52 (lv_at hl 0 rfl) ?_
  refine r_iconst cx 0 dX0_add_54 (by decide) ?_
  refine r_iast cx hP (dXg hn (by decide)) (fun _ => rfl) dX0_add_55 hF (fun s7 H locs hP hF => ?_)
  refine r_aload_n cx dX0_add_56 (lv_at hl 1 rfl) ?_
  refine gf0_30 cx hP hn dX0_add_57 ?_
  refine r_iload cx dX0_add_60 (lv_at hl 0 rfl) ?_
  refine r_iconst cx 0 dX0_add_62 (by decide) ?_
  refine r_iast cx hP (dXg hn (by decide)) (fun _ => rfl) dX0_add_63 hF (fun s8 H locs hP hF => ?_)
  refine r_aload_n cx dX0_add_64 (lv_at hl 1 rfl) ?_
  refine r_dup cx dX0_add_65 rfl ?_
  refine gf0_33 cx hP hn dX0_add_66 hF (fun v9 hF => ?_)
  refine r_iconst cx 1 dX0_add_69 (by decide) ?_
  refine r_iadd cx dX0_add_70 hF (fun v10 hF => ?_)
  refine pf0_33 cx hP hn dX0_add_71 hF (fun s11 H locs hP hF => ?_)
  refine r_iload cx dX0_add_74 (lv_at hl 0 rfl) ?_
  exact r_iret cx hP hr hk dX0_add_76 hF
set_option maxHeartbeats 4000000 in
set_option maxRecDepth 100000 in
theorem w9_readBed (l : Launch) (Γ : Wc) (ad : Nat → Nat → Nat) (A : Nat → Prop)  (σ : Sig) (σ1 : Sig) (hF : f9_readBed  σ = some σ1) : MV l SX Γ ad A yX9_readBed cX9_readBed 5 3 67 [.ref (ad 0 3)] σ σ1 := by
  refine MV.of (by decide) (Nat.le_of_ble_eq_true rfl) ?_
  intro p e s m args below meth c ls cx hr hk hP hl
  have hl : lv_has ls 5 [(0, .ref (ad 0 3))] := hl
  rw [f9_readBed] at hF
  refine r_aload_n cx dX9_readBed_0 (lv_at hl 0 rfl) ?_
  refine r_iconst cx 0 dX9_readBed_1 (by decide) ?_
  refine r_aload_n cx dX9_readBed_2 (lv_at hl 0 rfl) ?_
  refine gf9_12 cx hP dX9_readBed_3 ?_
  refine gf9_76 cx hP (by decide : 10 < 11) dX9_readBed_6 ?_
  refine gf9_138 cx hP (by decide : 10 < 11) dX9_readBed_9 hF (fun v1 hF => ?_)
  refine r_iconst cx 1 dX9_readBed_12 (by decide) ?_
  refine r_isub cx dX9_readBed_13 hF (fun v2 hF => ?_)
  obtain ⟨v3, s4, hc, hF⟩ := bns_some hF
  refine r_callVi cx hP (As := [.int 0, .int v2]) (w9_nextNumber l Γ ad A 0 v2 σ v3 s4 hc) mw9_141 ⟨Nat.le_of_ble_eq_true rfl, Nat.le_of_ble_eq_true rfl⟩ (dXr (by decide)) rfl rfl rfl (Nat.le_of_ble_eq_true rfl) hl.1 ⟨Nat.zero_le _, Nat.zero_le _⟩ dX9_readBed_14 (fun H locs hP => ?_)
  refine r_istore_n cx [(1, .int v3), (0, .ref (ad 0 3))] dX9_readBed_17 hl (by decide) rfl (fun ls hl => ?_)
  refine r_aload_n cx dX9_readBed_18 (lv_at hl 1 rfl) ?_
  refine r_iconst cx 1 dX9_readBed_19 (by decide) ?_
  refine r_bipush cx 20 dX9_readBed_20 (by decide) ?_
  obtain ⟨v5, s6, hc, hF⟩ := bns_some hF
  refine r_callVi cx hP (As := [.int 1, .int 20]) (w9_nextNumber l Γ ad A 1 20 s4 v5 s6 hc) mw9_141 ⟨Nat.le_of_ble_eq_true rfl, Nat.le_of_ble_eq_true rfl⟩ (dXr (by decide)) rfl rfl rfl (Nat.le_of_ble_eq_true rfl) hl.1 ⟨Nat.zero_le _, Nat.zero_le _⟩ dX9_readBed_22 (fun H locs hP => ?_)
  refine r_istore_n cx [(2, .int v5), (1, .int v3), (0, .ref (ad 0 3))] dX9_readBed_25 hl (by decide) rfl (fun ls hl => ?_)
  refine r_aload_n cx dX9_readBed_26 (lv_at hl 2 rfl) ?_
  refine r_iconst cx 0 dX9_readBed_27 (by decide) ?_
  refine r_bipush cx 99 dX9_readBed_28 (by decide) ?_
  obtain ⟨v7, s8, hc, hF⟩ := bns_some hF
  refine r_callVi cx hP (As := [.int 0, .int 99]) (w9_nextNumber l Γ ad A 0 99 s6 v7 s8 hc) mw9_141 ⟨Nat.le_of_ble_eq_true rfl, Nat.le_of_ble_eq_true rfl⟩ (dXr (by decide)) rfl rfl rfl (Nat.le_of_ble_eq_true rfl) hl.1 ⟨Nat.zero_le _, Nat.zero_le _⟩ dX9_readBed_30 (fun H locs hP => ?_)
  refine r_istore_n cx [(3, .int v7), (2, .int v5), (1, .int v3), (0, .ref (ad 0 3))] dX9_readBed_33 hl (by decide) rfl (fun ls hl => ?_)
  refine r_aload_n cx dX9_readBed_34 (lv_at hl 3 rfl) ?_
  refine r_iload_n cx dX9_readBed_35 (lv_at hl 0 rfl) ?_
  refine r_bipush cx 99 dX9_readBed_36 (by decide) ?_
  obtain ⟨v9, s10, hc, hF⟩ := bns_some hF
  refine r_callVi cx hP (As := [.int v7, .int 99]) (w9_nextNumber l Γ ad A v7 99 s8 v9 s10 hc) mw9_141 ⟨Nat.le_of_ble_eq_true rfl, Nat.le_of_ble_eq_true rfl⟩ (dXr (by decide)) rfl rfl rfl (Nat.le_of_ble_eq_true rfl) hl.1 ⟨Nat.zero_le _, Nat.zero_le _⟩ dX9_readBed_38 (fun H locs hP => ?_)
  refine r_istore cx [(4, .int v9), (3, .int v7), (2, .int v5), (1, .int v3), (0, .ref (ad 0 3))] dX9_readBed_41 hl (by decide) rfl (fun ls hl => ?_)
  refine r_aload_n cx dX9_readBed_43 (lv_at hl 4 rfl) ?_
  obtain ⟨v11, s12, hc, hF⟩ := bns_some hF
  refine r_callVi cx hP (As := []) (w9_isComplete l Γ ad A s10 v11 s12 hc) mw9_144 ⟨Nat.le_of_ble_eq_true rfl, Nat.le_of_ble_eq_true rfl⟩ (dXr (by decide)) rfl rfl rfl (Nat.le_of_ble_eq_true rfl) hl.1 ⟨Nat.zero_le _, Nat.zero_le _⟩ dX9_readBed_44 (fun H locs hP => ?_)
  refine r_if_eq cx 83 dX9_readBed_47 (by decide) hF (fun hF => ?_) (fun hF => ?_)
  · exact r_vret cx hP hr hk dX9_readBed_83 hF
  · refine r_aload_n cx dX9_readBed_50 (lv_at hl 4 rfl) ?_
    refine r_aload_n cx dX9_readBed_51 (lv_at hl 4 rfl) ?_
    refine gf9_12 cx hP dX9_readBed_52 ?_
    refine gf9_147 cx hP (by decide : 10 < 11) dX9_readBed_55 ?_
    obtain ⟨v13, hc, hF⟩ := bnd_some hF
    refine r_callVi cx hP (As := []) (w0_hasRoom l Γ ad A 10 (by decide : 10 < 11) s12 v13 hc) mw9_151 ⟨Nat.le_of_ble_eq_true rfl, Nat.le_of_ble_eq_true rfl⟩ (dXg (by decide : 10 < 11) (by decide)) rfl rfl rfl (Nat.le_of_ble_eq_true rfl) hl.1 ⟨Nat.zero_le _, Nat.zero_le _⟩ dX9_readBed_58 (fun H locs hP => ?_)
    obtain ⟨v14, s15, hc, hF⟩ := bns_some hF
    refine r_callVi cx hP (As := [.int v13]) (w9_executes l Γ ad A v13 s12 v14 s15 hc) mw9_154 ⟨Nat.le_of_ble_eq_true rfl, Nat.le_of_ble_eq_true rfl⟩ (dXr (by decide)) rfl rfl rfl (Nat.le_of_ble_eq_true rfl) hl.1 ⟨Nat.zero_le _, Nat.zero_le _⟩ dX9_readBed_61 (fun H locs hP => ?_)
    refine r_if_eq cx 83 dX9_readBed_64 (by decide) hF (fun hF => ?_) (fun hF => ?_)
    · exact r_vret cx hP hr hk dX9_readBed_83 hF
    · refine r_aload_n cx dX9_readBed_67 (lv_at hl 4 rfl) ?_
      refine gf9_12 cx hP dX9_readBed_68 ?_
      refine gf9_147 cx hP (by decide : 10 < 11) dX9_readBed_71 ?_
      refine r_iload_n cx dX9_readBed_74 (lv_at hl 3 rfl) ?_
      refine r_iload_n cx dX9_readBed_75 (lv_at hl 2 rfl) ?_
      refine r_iload_n cx dX9_readBed_76 (lv_at hl 1 rfl) ?_
      refine r_iload cx dX9_readBed_77 (lv_at hl 0 rfl) ?_
      obtain ⟨v16, s17, hc, hF⟩ := bns_some hF
      refine r_callVi cx hP (As := [.int v3, .int v5, .int v7, .int v9]) (w0_add l Γ ad A 10 (by decide : 10 < 11) v3 v5 v7 v9 s15 v16 s17 hc) mw9_158 ⟨Nat.le_of_ble_eq_true rfl, Nat.le_of_ble_eq_true rfl⟩ (dXg (by decide : 10 < 11) (by decide)) rfl rfl rfl (Nat.le_of_ble_eq_true rfl) hl.1 ⟨Nat.zero_le _, Nat.zero_le _⟩ dX9_readBed_79 (fun H locs hP => ?_)
      refine r_pop cx dX9_readBed_82 rfl ?_
      exact r_vret cx hP hr hk dX9_readBed_83 hF
set_option maxHeartbeats 4000000 in
set_option maxRecDepth 100000 in
theorem w10_setOfAllScents (l : Launch) (Γ : Wc) (ad : Nat → Nat → Nat) (A : Nat → Prop) (n : Nat) (hn : n < 11) (σ : Sig) (r : Int32) (hF : f10_setOfAllScents n σ = some r) : MI l SX Γ ad A yX10_setOfAllScents cX10_setOfAllScents 1 (some .int) 0 0 [.ref (ad (n + 1) 2)] σ r σ := by
  refine MI.of (by decide) (Nat.le_of_ble_eq_true rfl) ?_
  intro p e s m args below meth c ls cx hr hk hP hl
  have hl : lv_has ls 1 [(0, .ref (ad (n + 1) 2))] := hl
  rw [f10_setOfAllScents] at hF
  refine r_iconst cx 1 dX10_setOfAllScents_0 (by decide) ?_
  refine r_aload_n cx dX10_setOfAllScents_1 (lv_at hl 0 rfl) ?_
  refine gf10_15 cx hP hn dX10_setOfAllScents_2 hF (fun v1 hF => ?_)
  refine r_ishl cx dX10_setOfAllScents_5 hF (fun v2 hF => ?_)
  refine r_iconst cx 1 dX10_setOfAllScents_6 (by decide) ?_
  refine r_isub cx dX10_setOfAllScents_7 hF (fun v3 hF => ?_)
  exact r_iret cx hP hr hk dX10_setOfAllScents_8 (prF hF)
set_option maxHeartbeats 4000000 in
set_option maxRecDepth 100000 in
theorem w3_today (l : Launch) (Γ : Wc) (ad : Nat → Nat → Nat) (A : Nat → Prop) (n : Nat) (hn : n < 11) (σ : Sig) (r : Int32) (hF : f3_today n σ = some r) : MI l SX Γ ad A yX3_today cX3_today 1 (some .int) 0 0 [.ref (ad (n + 1) 1)] σ r σ := by
  refine MI.of (by decide) (Nat.le_of_ble_eq_true rfl) ?_
  intro p e s m args below meth c ls cx hr hk hP hl
  have hl : lv_has ls 1 [(0, .ref (ad (n + 1) 1))] := hl
  rw [f3_today] at hF
  refine r_aload_n cx dX3_today_0 (lv_at hl 0 rfl) ?_
  refine gf3_9 cx hP hn dX3_today_1 hF (fun v1 hF => ?_)
  refine r_bipush cx 96 dX3_today_4 (by decide) ?_
  refine r_idiv cx dX3_today_6 hF (fun v2 hF => ?_)
  exact r_iret cx hP hr hk dX3_today_7 (prF hF)
set_option maxHeartbeats 4000000 in
set_option maxRecDepth 100000 in
theorem w9_nextKind (l : Launch) (Γ : Wc) (ad : Nat → Nat → Nat) (A : Nat → Prop)  (σ : Sig) (r : Int32) (σ1 : Sig) (hF : f9_nextKind  σ = some (r, σ1)) : MI l SX Γ ad A yX9_nextKind cX9_nextKind 1 (some .int) 5 108 [.ref (ad 0 3)] σ r σ1 := by
  refine MI.of (by decide) (Nat.le_of_ble_eq_true rfl) ?_
  intro p e s m args below meth c ls cx hr hk hP hl
  have hl : lv_has ls 1 [(0, .ref (ad 0 3))] := hl
  rw [f9_nextKind] at hF
  generalize hH0 : s.heap = H0 at hP ⊢
  generalize ([] : List Loc) = locs0 at hP ⊢
  clear hH0
  have b43 : ∀ (σ : Sig) (H : Heap) (locs : List Loc) (ls : Array Slot), PS SX Γ ad A s σ H locs → lv_has ls 1 [(0, .ref (ad 0 3))] → f9_nextKind_b43 σ = some (r, σ1) → W p l e (rmz 5 108) s m args below meth c H locs 0 0 (QI SX Γ ad A below args s r σ1) (F0 m 43 ls []) := by
    intro σ H locs ls hP hl hF
    rw [f9_nextKind_b43] at hF
    refine r_aload_n cx dX9_nextKind_43 (lv_at hl 0 rfl) ?_
    refine gf9_21 cx hP dX9_nextKind_44 ?_
    refine r_ldc cx (k := 5) (by decide) (by decide) dX9_nextKind_47 ?_
    obtain ⟨v1, hc, hF⟩ := bnd_some hF
    refine r_callVi cx hP (As := [.ref (Γ.2.2.1 5)]) (w6_isWord l Γ ad A 5 (by decide) σ v1 hc) mw9_55 ⟨Nat.le_of_ble_eq_true rfl, Nat.le_of_ble_eq_true rfl⟩ (dXr (by decide)) rfl rfl rfl (Nat.le_of_ble_eq_true rfl) hl.1 ⟨Nat.zero_le _, Nat.zero_le _⟩ dX9_nextKind_49 (fun H locs hP => ?_)
    refine r_if_eq cx 59 dX9_nextKind_52 (by decide) hF (fun hF => ?_) (fun hF => ?_)
    · refine r_iconst cx 0 dX9_nextKind_59 (by decide) ?_
      exact r_iret cx hP hr hk dX9_nextKind_60 hF
    · refine r_iconst cx 1 dX9_nextKind_55 (by decide) ?_
      refine r_goto cx 60 dX9_nextKind_56 (by decide) ?_
      exact r_iret cx hP hr hk dX9_nextKind_60 hF
  refine r_aload_n cx dX9_nextKind_0 (lv_at hl 0 rfl) ?_
  refine gf9_25 cx hP dX9_nextKind_1 hF (fun v2 hF => ?_)
  refine r_if_ne cx 43 dX9_nextKind_4 (by decide) hF (fun hF => ?_) (fun hF => ?_)
  · exact b43 σ _ _ _ hP (lv_sub hl [0] rfl) hF
  · refine r_aload_n cx dX9_nextKind_7 (lv_at hl 0 rfl) ?_
    refine gf9_21 cx hP dX9_nextKind_8 ?_
    obtain ⟨s3, hc, hF⟩ := bnd_some hF
    refine r_callVv cx hP (As := []) (w6_readNext l Γ ad A σ s3 hc) mw9_63 ⟨Nat.le_of_ble_eq_true rfl, Nat.le_of_ble_eq_true rfl⟩ (dXr (by decide)) rfl rfl rfl (Nat.le_of_ble_eq_true rfl) hl.1 ⟨Nat.zero_le _, Nat.zero_le _⟩ dX9_nextKind_11 (fun H locs hP => ?_)
    refine r_aload_n cx dX9_nextKind_14 (lv_at hl 0 rfl) ?_
    refine gf9_21 cx hP dX9_nextKind_15 ?_
    refine r_ldc cx (k := 4) (by decide) (by decide) dX9_nextKind_18 ?_
    obtain ⟨v4, hc, hF⟩ := bnd_some hF
    refine r_callVi cx hP (As := [.ref (Γ.2.2.1 4)]) (w6_isWord l Γ ad A 4 (by decide) s3 v4 hc) mw9_55 ⟨Nat.le_of_ble_eq_true rfl, Nat.le_of_ble_eq_true rfl⟩ (dXr (by decide)) rfl rfl rfl (Nat.le_of_ble_eq_true rfl) hl.1 ⟨Nat.zero_le _, Nat.zero_le _⟩ dX9_nextKind_20 (fun H locs hP => ?_)
    refine r_if_ne cx 43 dX9_nextKind_23 (by decide) hF (fun hF => ?_) (fun hF => ?_)
    · exact b43 s3 _ _ _ hP (lv_sub hl [0] rfl) hF
    · refine r_aload_n cx dX9_nextKind_26 (lv_at hl 0 rfl) ?_
      refine gf9_21 cx hP dX9_nextKind_27 ?_
      refine r_ldc cx (k := 5) (by decide) (by decide) dX9_nextKind_30 ?_
      obtain ⟨v5, hc, hF⟩ := bnd_some hF
      refine r_callVi cx hP (As := [.ref (Γ.2.2.1 5)]) (w6_isWord l Γ ad A 5 (by decide) s3 v5 hc) mw9_55 ⟨Nat.le_of_ble_eq_true rfl, Nat.le_of_ble_eq_true rfl⟩ (dXr (by decide)) rfl rfl rfl (Nat.le_of_ble_eq_true rfl) hl.1 ⟨Nat.zero_le _, Nat.zero_le _⟩ dX9_nextKind_32 (fun H locs hP => ?_)
      refine r_if_ne cx 43 dX9_nextKind_35 (by decide) hF (fun hF => ?_) (fun hF => ?_)
      · exact b43 s3 _ _ _ hP (lv_sub hl [0] rfl) hF
      · refine r_aload_n cx dX9_nextKind_38 (lv_at hl 0 rfl) ?_
        refine r_iconst cx 1 dX9_nextKind_39 (by decide) ?_
        obtain ⟨s6, hc, hF⟩ := bnd_some hF
        refine r_callVv cx hP (As := [.int 1]) (w9_fail l Γ ad A 1 s3 s6 hc) mw9_59 ⟨Nat.le_of_ble_eq_true rfl, Nat.le_of_ble_eq_true rfl⟩ (dXr (by decide)) rfl rfl rfl (Nat.le_of_ble_eq_true rfl) hl.1 ⟨Nat.zero_le _, Nat.zero_le _⟩ dX9_nextKind_40 (fun H locs hP => ?_)
        exact b43 s6 _ _ _ hP (lv_sub hl [0] rfl) hF
set_option maxHeartbeats 4000000 in
set_option maxRecDepth 100000 in
theorem w7_hasRoom (l : Launch) (Γ : Wc) (ad : Nat → Nat → Nat) (A : Nat → Prop) (n : Nat) (hn : n < 11) (σ : Sig) (r : Int32) (hF : f7_hasRoom n σ = some r) : MI l SX Γ ad A yX7_hasRoom cX7_hasRoom 1 (some .boolean) 0 0 [.ref (ad (n + 1) 4)] σ r σ := by
  refine MI.of (by decide) (Nat.le_of_ble_eq_true rfl) ?_
  intro p e s m args below meth c ls cx hr hk hP hl
  have hl : lv_has ls 1 [(0, .ref (ad (n + 1) 4))] := hl
  rw [f7_hasRoom] at hF
  refine r_aload_n cx dX7_hasRoom_0 (lv_at hl 0 rfl) ?_
  refine gf7_49 cx hP hn dX7_hasRoom_1 hF (fun v1 hF => ?_)
  refine r_bipush cx 30 dX7_hasRoom_4 (by decide) ?_
  refine r_icmp_ge cx 13 dX7_hasRoom_6 (by decide) hF (fun hF => ?_) (fun hF => ?_)
  · refine r_iconst cx 0 dX7_hasRoom_13 (by decide) ?_
    exact r_zret cx hP hr hk (by decide) dX7_hasRoom_14 (prF hF)
  · refine r_iconst cx 1 dX7_hasRoom_9 (by decide) ?_
    refine r_goto cx 14 dX7_hasRoom_10 (by decide) ?_
    exact r_zret cx hP hr hk (by decide) dX7_hasRoom_14 (prF hF)
set_option maxHeartbeats 4000000 in
set_option maxRecDepth 100000 in
theorem w2_hasRoom (l : Launch) (Γ : Wc) (ad : Nat → Nat → Nat) (A : Nat → Prop) (n : Nat) (hn : n < 11) (σ : Sig) (r : Int32) (hF : f2_hasRoom n σ = some r) : MI l SX Γ ad A yX2_hasRoom cX2_hasRoom 1 (some .boolean) 0 0 [.ref (ad (n + 1) 5)] σ r σ := by
  refine MI.of (by decide) (Nat.le_of_ble_eq_true rfl) ?_
  intro p e s m args below meth c ls cx hr hk hP hl
  have hl : lv_has ls 1 [(0, .ref (ad (n + 1) 5))] := hl
  rw [f2_hasRoom] at hF
  refine r_aload_n cx dX2_hasRoom_0 (lv_at hl 0 rfl) ?_
  refine gf2_19 cx hP hn dX2_hasRoom_1 hF (fun v1 hF => ?_)
  refine r_bipush cx 50 dX2_hasRoom_4 (by decide) ?_
  refine r_icmp_ge cx 13 dX2_hasRoom_6 (by decide) hF (fun hF => ?_) (fun hF => ?_)
  · refine r_iconst cx 0 dX2_hasRoom_13 (by decide) ?_
    exact r_zret cx hP hr hk (by decide) dX2_hasRoom_14 (prF hF)
  · refine r_iconst cx 1 dX2_hasRoom_9 (by decide) ?_
    refine r_goto cx 14 dX2_hasRoom_10 (by decide) ?_
    exact r_zret cx hP hr hk (by decide) dX2_hasRoom_14 (prF hF)
set_option maxHeartbeats 4000000 in
set_option maxRecDepth 100000 in
theorem w4_canSellPass (l : Launch) (Γ : Wc) (ad : Nat → Nat → Nat) (A : Nat → Prop) (n : Nat) (hn : n < 11) (σ : Sig) (r : Int32) (hF : f4_canSellPass n σ = some r) : MI l SX Γ ad A yX4_canSellPass cX4_canSellPass 1 (some .boolean) 1 20 [.ref (ad (n + 1) 0)] σ r σ := by
  refine MI.of (by decide) (Nat.le_of_ble_eq_true rfl) ?_
  intro p e s m args below meth c ls cx hr hk hP hl
  have hl : lv_has ls 1 [(0, .ref (ad (n + 1) 0))] := hl
  rw [f4_canSellPass] at hF
  refine r_aload_n cx dX4_canSellPass_0 (lv_at hl 0 rfl) ?_
  refine gf4_35 cx hP hn dX4_canSellPass_1 ?_
  obtain ⟨v1, hc, hF⟩ := bnd_some hF
  refine r_callVi cx hP (As := []) (w7_hasRoom l Γ ad A n hn σ v1 hc) mw4_100 ⟨Nat.le_of_ble_eq_true rfl, Nat.le_of_ble_eq_true rfl⟩ (dXg hn (by decide)) rfl rfl rfl (Nat.le_of_ble_eq_true rfl) hl.1 ⟨Nat.zero_le _, Nat.zero_le _⟩ dX4_canSellPass_4 (fun H locs hP => ?_)
  refine r_if_eq cx 24 dX4_canSellPass_7 (by decide) hF (fun hF => ?_) (fun hF => ?_)
  · refine r_iconst cx 0 dX4_canSellPass_24 (by decide) ?_
    exact r_zret cx hP hr hk (by decide) dX4_canSellPass_25 (prF hF)
  · refine r_aload_n cx dX4_canSellPass_10 (lv_at hl 0 rfl) ?_
    refine gf4_42 cx hP hn dX4_canSellPass_11 ?_
    obtain ⟨v2, hc, hF⟩ := bnd_some hF
    refine r_callVi cx hP (As := []) (w2_hasRoom l Γ ad A n hn σ v2 hc) mw4_104 ⟨Nat.le_of_ble_eq_true rfl, Nat.le_of_ble_eq_true rfl⟩ (dXg hn (by decide)) rfl rfl rfl (Nat.le_of_ble_eq_true rfl) hl.1 ⟨Nat.zero_le _, Nat.zero_le _⟩ dX4_canSellPass_14 (fun H locs hP => ?_)
    refine r_if_eq cx 24 dX4_canSellPass_17 (by decide) hF (fun hF => ?_) (fun hF => ?_)
    · refine r_iconst cx 0 dX4_canSellPass_24 (by decide) ?_
      exact r_zret cx hP hr hk (by decide) dX4_canSellPass_25 (prF hF)
    · refine r_iconst cx 1 dX4_canSellPass_20 (by decide) ?_
      refine r_goto cx 25 dX4_canSellPass_21 (by decide) ?_
      exact r_zret cx hP hr hk (by decide) dX4_canSellPass_25 (prF hF)
set_option maxHeartbeats 4000000 in
set_option maxRecDepth 100000 in
theorem w10_percentForDays (l : Launch) (Γ : Wc) (ad : Nat → Nat → Nat) (A : Nat → Prop) (p0 : Int32) (σ : Sig) (r : Int32) (hF : f10_percentForDays p0 = some r) : MI l SX Γ ad A yX10_percentForDays cX10_percentForDays 1 (some .int) 0 0 [.int p0] σ r σ := by
  refine MI.of (by decide) (Nat.le_of_ble_eq_true rfl) ?_
  intro p e s m args below meth c ls cx hr hk hP hl
  have hl : lv_has ls 1 [(0, .int p0)] := hl
  rw [f10_percentForDays] at hF
  refine r_iload_n cx dX10_percentForDays_0 (lv_at hl 0 rfl) ?_
  refine r_bipush cx 6 dX10_percentForDays_1 (by decide) ?_
  refine r_icmp_lt cx 9 dX10_percentForDays_3 (by decide) hF (fun hF => ?_) (fun hF => ?_)
  · refine r_iload_n cx dX10_percentForDays_9 (lv_at hl 0 rfl) ?_
    refine r_iconst cx 3 dX10_percentForDays_10 (by decide) ?_
    refine r_icmp_lt cx 19 dX10_percentForDays_11 (by decide) hF (fun hF => ?_) (fun hF => ?_)
    · refine r_bipush cx 100 dX10_percentForDays_19 (by decide) ?_
      exact r_iret cx hP hr hk dX10_percentForDays_21 (prF hF)
    · refine r_bipush cx 90 dX10_percentForDays_14 (by decide) ?_
      refine r_goto cx 21 dX10_percentForDays_16 (by decide) ?_
      exact r_iret cx hP hr hk dX10_percentForDays_21 (prF hF)
  · refine r_bipush cx 80 dX10_percentForDays_6 (by decide) ?_
    exact r_iret cx hP hr hk dX10_percentForDays_8 (prF hF)
set_option maxHeartbeats 4000000 in
set_option maxRecDepth 100000 in
theorem w10_priceOfPass (l : Launch) (Γ : Wc) (ad : Nat → Nat → Nat) (A : Nat → Prop) (n : Nat) (hn : n < 11) (p1 : Int32) (p2 : Int32) (p3 : Int32) (σ : Sig) (r : Int32) (hF : f10_priceOfPass n p1 p2 p3 σ = some r) : MI l SX Γ ad A yX10_priceOfPass cX10_priceOfPass 6 (some .int) 1 20 [.ref (ad (n + 1) 2), .int p1, .int p2, .int p3] σ r σ := by
  refine MI.of (by decide) (Nat.le_of_ble_eq_true rfl) ?_
  intro p e s m args below meth c ls cx hr hk hP hl
  have hl : lv_has ls 6 [(0, .ref (ad (n + 1) 2)), (1, .int p1), (2, .int p2), (3, .int p3)] := hl
  rw [f10_priceOfPass] at hF
  generalize hH0 : s.heap = H0 at hP ⊢
  generalize ([] : List Loc) = locs0 at hP ⊢
  clear hH0
  have b37 : ∀ (rc : Int32 → Int32 → Int32 → Int32 → Int32 → Sig → Option (Int32)) (ih : ∀ (x1 : Int32) (x2 : Int32) (x3 : Int32) (x4 : Int32) (x5 : Int32) (H : Heap) (locs : List Loc) (ls : Array Slot), PS SX Γ ad A s σ H locs → lv_has ls 6 [(0, .ref (ad (n + 1) 2)), (1, .int x1), (2, .int x2), (3, .int x3), (4, .int x4), (5, .int x5)] → rc x1 x2 x3 x4 x5 σ = some r → W p l e (rmz 1 20) s m args below meth c H locs 0 0 (QI SX Γ ad A below args s r σ) (F0 m 6 ls [])) (x1 : Int32) (x2 : Int32) (x3 : Int32) (x4 : Int32) (x5 : Int32) (H : Heap) (locs : List Loc) (ls : Array Slot), PS SX Γ ad A s σ H locs → lv_has ls 6 [(0, .ref (ad (n + 1) 2)), (1, .int x1), (2, .int x2), (3, .int x3), (4, .int x4), (5, .int x5)] → f10_priceOfPass_b37 n rc x1 x2 x3 x4 x5 σ = some r → W p l e (rmz 1 20) s m args below meth c H locs 0 0 (QI SX Γ ad A below args s r σ) (F0 m 37 ls []) := by
    intro rc ih x1 x2 x3 x4 x5 H locs ls hP hl hF
    rw [f10_priceOfPass_b37] at hF
    refine r_iinc cx (k := 5) (w := 1) (fun v1 => [(5, .int v1), (0, .ref (ad (n + 1) 2)), (1, .int x1), (2, .int x2), (3, .int x3), (4, .int x4)]) dX10_priceOfPass_37 hl rfl (by decide) (by decide) hF (fun _ => rfl) (fun v1 ls hF hl => ?_)
    refine r_goto cx 6 dX10_priceOfPass_40 (by decide) ?_
    exact ih x1 x2 x3 x4 v1 _ _ _ hP (lv_sub hl [1, 2, 3, 4, 5, 0] rfl) hF
  have b55 : ∀ (x2 : Int32) (x4 : Int32) (t0 : Int32) (H : Heap) (locs : List Loc) (ls : Array Slot), PS SX Γ ad A s σ H locs → lv_has ls 6 [(2, .int x2), (4, .int x4)] → f10_priceOfPass_b55 n x2 x4 t0 σ = some r → W p l e (rmz 1 20) s m args below meth c H locs 0 0 (QI SX Γ ad A below args s r σ) (F0 m 55 ls [.int t0]) := by
    intro x2 x4 t0 H locs ls hP hl hF
    rw [f10_priceOfPass_b55] at hF
    refine r_istore cx [(5, .int t0), (2, .int x2), (4, .int x4)] dX10_priceOfPass_55 hl (by decide) rfl (fun ls hl => ?_)
    refine r_iload cx dX10_priceOfPass_57 (lv_at hl 2 rfl) ?_
    refine r_iload_n cx dX10_priceOfPass_59 (lv_at hl 1 rfl) ?_
    refine r_imul cx dX10_priceOfPass_60 hF (fun v2 hF => ?_)
    refine r_iload cx dX10_priceOfPass_61 (lv_at hl 0 rfl) ?_
    refine r_imul cx dX10_priceOfPass_63 hF (fun v3 hF => ?_)
    refine r_iload_n cx dX10_priceOfPass_64 (lv_at hl 1 rfl) ?_
    obtain ⟨v4, hc, hF⟩ := bnd_some hF
    refine r_callSi cx hP (As := [.int x2]) (w10_percentForDays l Γ ad A x2 σ v4 hc) mw10_28 ⟨Nat.le_of_ble_eq_true rfl, Nat.le_of_ble_eq_true rfl⟩ rfl (Nat.le_of_ble_eq_true rfl) hl.1 ⟨Nat.zero_le _, Nat.zero_le _⟩ dX10_priceOfPass_65 (fun H locs hP => ?_)
    refine r_imul cx dX10_priceOfPass_68 hF (fun v5 hF => ?_)
    refine r_sipush cx 10000 dX10_priceOfPass_69 (by decide) ?_
    refine r_idiv cx dX10_priceOfPass_72 hF (fun v6 hF => ?_)
    exact r_iret cx hP hr hk dX10_priceOfPass_73 (prF hF)
  have b6 : ∀ (fu : Nat) (x1 : Int32) (x2 : Int32) (x3 : Int32) (x4 : Int32) (x5 : Int32) (H : Heap) (locs : List Loc) (ls : Array Slot), PS SX Γ ad A s σ H locs → lv_has ls 6 [(0, .ref (ad (n + 1) 2)), (1, .int x1), (2, .int x2), (3, .int x3), (4, .int x4), (5, .int x5)] → f10_priceOfPass_b6 n fu x1 x2 x3 x4 x5 σ = some r → W p l e (rmz 1 20) s m args below meth c H locs 0 0 (QI SX Γ ad A below args s r σ) (F0 m 6 ls []) := by
    intro fu
    induction fu with
    | zero => intro x1 x2 x3 x4 x5 H locs ls hP hl hF; exact nofu hF
    | succ fu ih =>
      intro x1 x2 x3 x4 x5 H locs ls hP hl hF
      rw [f10_priceOfPass_b6] at hF
      refine r_iload cx dX10_priceOfPass_6 (lv_at hl 5 rfl) ?_
      refine r_aload_n cx dX10_priceOfPass_8 (lv_at hl 0 rfl) ?_
      refine gf10_15 cx hP hn dX10_priceOfPass_9 hF (fun v7 hF => ?_)
      refine r_icmp_ge cx 43 dX10_priceOfPass_12 (by decide) hF (fun hF => ?_) (fun hF => ?_)
      · refine r_iload_n cx dX10_priceOfPass_43 (lv_at hl 3 rfl) ?_
        refine r_iconst cx 1 dX10_priceOfPass_44 (by decide) ?_
        refine r_icmp_ne cx 53 dX10_priceOfPass_45 (by decide) hF (fun hF => ?_) (fun hF => ?_)
        · refine r_bipush cx 100 dX10_priceOfPass_53 (by decide) ?_
          exact b55 x2 x4 100 _ _ _ hP (lv_sub hl [2, 4] rfl) hF
        · refine r_bipush cx 60 dX10_priceOfPass_48 (by decide) ?_
          refine r_goto cx 55 dX10_priceOfPass_50 (by decide) ?_
          exact b55 x2 x4 60 _ _ _ hP (lv_sub hl [2, 4] rfl) hF
      · refine r_iload_n cx dX10_priceOfPass_15 (lv_at hl 1 rfl) ?_
        refine r_iload cx dX10_priceOfPass_16 (lv_at hl 5 rfl) ?_
        refine r_ishr cx dX10_priceOfPass_18 hF (fun v8 hF => ?_)
        refine r_iconst cx 1 dX10_priceOfPass_19 (by decide) ?_
        refine r_iand cx dX10_priceOfPass_20 hF (fun v9 hF => ?_)
        refine r_iconst cx 1 dX10_priceOfPass_21 (by decide) ?_
        refine r_icmp_ne cx 37 dX10_priceOfPass_22 (by decide) hF (fun hF => ?_) (fun hF => ?_)
        · exact b37 (f10_priceOfPass_b6 n fu) ih x1 x2 x3 x4 x5 _ _ _ hP (lv_sub hl [0, 1, 2, 3, 4, 5] rfl) hF
        · refine r_iload cx dX10_priceOfPass_25 (lv_at hl 4 rfl) ?_
          refine r_aload_n cx dX10_priceOfPass_27 (lv_at hl 0 rfl) ?_
          refine gf10_9 cx hP hn dX10_priceOfPass_28 ?_
          refine r_iload cx dX10_priceOfPass_31 (lv_at hl 5 rfl) ?_
          refine r_iald cx hP (dXg hn (by decide)) rfl dX10_priceOfPass_33 hF (fun v10 hF => ?_)
          refine r_iadd cx dX10_priceOfPass_34 hF (fun v11 hF => ?_)
          refine r_istore cx [(4, .int v11), (0, .ref (ad (n + 1) 2)), (1, .int x1), (2, .int x2), (3, .int x3), (5, .int x5)] dX10_priceOfPass_35 hl (by decide) rfl (fun ls hl => ?_)
          exact b37 (f10_priceOfPass_b6 n fu) ih x1 x2 x3 v11 x5 _ _ _ hP (lv_sub hl [1, 2, 3, 4, 0, 5] rfl) hF
  refine r_iconst cx 0 dX10_priceOfPass_0 (by decide) ?_
  refine r_istore cx [(4, .int 0), (0, .ref (ad (n + 1) 2)), (1, .int p1), (2, .int p2), (3, .int p3)] dX10_priceOfPass_1 hl (by decide) rfl (fun ls hl => ?_)
  refine r_iconst cx 0 dX10_priceOfPass_3 (by decide) ?_
  refine r_istore cx [(5, .int 0), (4, .int 0), (0, .ref (ad (n + 1) 2)), (1, .int p1), (2, .int p2), (3, .int p3)] dX10_priceOfPass_4 hl (by decide) rfl (fun ls hl => ?_)
  exact b6 FU p1 p2 p3 0 0 _ _ _ hP (lv_sub hl [2, 3, 4, 5, 1, 0] rfl) hF
set_option maxHeartbeats 4000000 in
set_option maxRecDepth 100000 in
theorem w7_add (l : Launch) (Γ : Wc) (ad : Nat → Nat → Nat) (A : Nat → Prop) (n : Nat) (hn : n < 11) (p1 : Int32) (p2 : Int32) (p3 : Int32) (p4 : Int32) (p5 : Int32) (σ : Sig) (r : Int32) (σ1 : Sig) (hF : f7_add n p1 p2 p3 p4 p5 σ = some (r, σ1)) : MI l SX Γ ad A yX7_add cX7_add 7 (some .int) 0 0 [.ref (ad (n + 1) 4), .int p1, .int p2, .int p3, .int p4, .int p5] σ r σ1 := by
  refine MI.of (by decide) (Nat.le_of_ble_eq_true rfl) ?_
  intro p e s m args below meth c ls cx hr hk hP hl
  have hl : lv_has ls 7 [(0, .ref (ad (n + 1) 4)), (1, .int p1), (2, .int p2), (3, .int p3), (4, .int p4), (5, .int p5)] := hl
  rw [f7_add] at hF
  refine r_aload_n cx dX7_add_0 (lv_at hl 0 rfl) ?_
  refine gf7_49 cx hP hn dX7_add_1 hF (fun v1 hF => ?_)
  refine r_istore cx [(6, .int v1), (0, .ref (ad (n + 1) 4)), (1, .int p1), (2, .int p2), (3, .int p3), (4, .int p4), (5, .int p5)] dX7_add_4 hl (by decide) rfl (fun ls hl => ?_)
  refine r_aload_n cx dX7_add_6 (lv_at hl 1 rfl) ?_
  refine gf7_9 cx hP hn dX7_add_7 ?_
  refine r_iload cx dX7_add_10 (lv_at hl 0 rfl) ?_
  refine r_iload_n cx dX7_add_12 (lv_at hl 2 rfl) ?_
  refine r_iast cx hP (dXg hn (by decide)) (fun _ => rfl) dX7_add_13 hF (fun s2 H locs hP hF => ?_)
  refine r_aload_n cx dX7_add_14 (lv_at hl 1 rfl) ?_
  refine gf7_15 cx hP hn dX7_add_15 ?_
  refine r_iload cx dX7_add_18 (lv_at hl 0 rfl) ?_
  refine r_iload_n cx dX7_add_20 (lv_at hl 3 rfl) ?_
  refine r_iast cx hP (dXg hn (by decide)) (fun _ => rfl) dX7_add_21 hF (fun s3 H locs hP hF => ?_)
  refine r_aload_n cx dX7_add_22 (lv_at hl 1 rfl) ?_
  refine gf7_18 cx hP hn dX7_add_23 ?_
  refine r_iload cx dX7_add_26 (lv_at hl 0 rfl) ?_
  refine r_iload_n cx dX7_add_28 (lv_at hl 4 rfl) ?_
  refine r_iast cx hP (dXg hn (by decide)) (fun _ => rfl) dX7_add_29 hF (fun s4 H locs hP hF => ?_)
  refine r_aload_n cx dX7_add_30 (lv_at hl 1 rfl) ?_
  refine gf7_21 cx hP hn dX7_add_31 ?_
  refine r_iload cx dX7_add_34 (lv_at hl 0 rfl) ?_
  refine r_iload cx dX7_add_36 (lv_at hl 5 rfl) ?_
  refine r_iast cx hP (dXg hn (by decide)) (fun _ => rfl) dX7_add_38 hF (fun s5 H locs hP hF => ?_)
  refine r_aload_n cx dX7_add_39 (lv_at hl 1 rfl) ?_
  refine gf7_24 cx hP hn dX7_add_40 ?_
  refine r_iload cx dX7_add_43 (lv_at hl 0 rfl) ?_
  refine r_iload cx dX7_add_45 (lv_at hl 6 rfl) ?_
  refine r_iast cx hP (dXg hn (by decide)) (fun _ => rfl) dX7_add_47 hF (fun s6 H locs hP hF => ?_)
  refine r_aload_n cx dX7_add_48 (lv_at hl 1 rfl) ?_
  refine gf7_27 cx hP hn dX7_add_49 ?_
  refine r_iload cx dX7_add_52 (lv_at hl 0 rfl) ?_
  refine r_iconst cx (-1) dX7_add_54 (by decide) ?_
  refine r_iast cx hP (dXg hn (by decide)) (fun _ => rfl) dX7_add_55 hF (fun s7 H locs hP hF => ?_)
  refine r_aload_n cx dX7_add_56 (lv_at hl 1 rfl) ?_
  refine gf7_30 cx hP hn dX7_add_57 ?_
  refine r_iload cx dX7_add_60 (lv_at hl 0 rfl) ?_
  refine r_iconst cx 0 dX7_add_62 (by decide) ?_
  refine r_zast cx hP (dXg hn (by decide)) (fun _ => rfl) dX7_add_63 hF (fun s8 H locs hP hF => ?_)
  refine r_aload_n cx dX7_add_64 (lv_at hl 1 rfl) ?_
  refine gf7_34 cx hP hn dX7_add_65 ?_
  refine r_iload cx dX7_add_68 (lv_at hl 0 rfl) ?_
  refine r_iconst cx 0 dX7_add_70 (by decide) ?_
  refine r_iast cx hP (dXg hn (by decide)) (fun _ => rfl) dX7_add_71 hF (fun s9 H locs hP hF => ?_)
  refine r_aload_n cx dX7_add_72 (lv_at hl 1 rfl) ?_
  refine gf7_37 cx hP hn dX7_add_73 ?_
  refine r_iload cx dX7_add_76 (lv_at hl 0 rfl) ?_
  refine r_iconst cx 0 dX7_add_78 (by decide) ?_
  refine r_iast cx hP (dXg hn (by decide)) (fun _ => rfl) dX7_add_79 hF (fun s10 H locs hP hF => ?_)
  refine r_aload_n cx dX7_add_80 (lv_at hl 1 rfl) ?_
  refine gf7_40 cx hP hn dX7_add_81 ?_
  refine r_iload cx dX7_add_84 (lv_at hl 0 rfl) ?_
  refine r_iconst cx (-1) dX7_add_86 (by decide) ?_
  refine r_iast cx hP (dXg hn (by decide)) (fun _ => rfl) dX7_add_87 hF (fun s11 H locs hP hF => ?_)
  refine r_aload_n cx dX7_add_88 (lv_at hl 1 rfl) ?_
  refine gf7_43 cx hP hn dX7_add_89 ?_
  refine r_iload cx dX7_add_92 (lv_at hl 0 rfl) ?_
  refine r_iconst cx (-1) dX7_add_94 (by decide) ?_
  refine r_iast cx hP (dXg hn (by decide)) (fun _ => rfl) dX7_add_95 hF (fun s12 H locs hP hF => ?_)
  refine r_aload_n cx dX7_add_96 (lv_at hl 1 rfl) ?_
  refine gf7_46 cx hP hn dX7_add_97 ?_
  refine r_iload cx dX7_add_100 (lv_at hl 0 rfl) ?_
  refine r_iconst cx 0 dX7_add_102 (by decide) ?_
  refine r_iast cx hP (dXg hn (by decide)) (fun _ => rfl) dX7_add_103 hF (fun s13 H locs hP hF => ?_)
  refine r_aload_n cx dX7_add_104 (lv_at hl 1 rfl) ?_
  refine r_dup cx dX7_add_105 rfl ?_
  refine gf7_49 cx hP hn dX7_add_106 hF (fun v14 hF => ?_)
  refine r_iconst cx 1 dX7_add_109 (by decide) ?_
  refine r_iadd cx dX7_add_110 hF (fun v15 hF => ?_)
  refine pf7_49 cx hP hn dX7_add_111 hF (fun s16 H locs hP hF => ?_)
  refine r_iload cx dX7_add_114 (lv_at hl 0 rfl) ?_
  exact r_iret cx hP hr hk dX7_add_116 hF
set_option maxHeartbeats 4000000 in
set_option maxRecDepth 100000 in
theorem w2_add (l : Launch) (Γ : Wc) (ad : Nat → Nat → Nat) (A : Nat → Prop) (n : Nat) (hn : n < 11) (p1 : Int32) (σ : Sig) (r : Int32) (σ1 : Sig) (hF : f2_add n p1 σ = some (r, σ1)) : MI l SX Γ ad A yX2_add cX2_add 3 (some .int) 0 0 [.ref (ad (n + 1) 5), .int p1] σ r σ1 := by
  refine MI.of (by decide) (Nat.le_of_ble_eq_true rfl) ?_
  intro p e s m args below meth c ls cx hr hk hP hl
  have hl : lv_has ls 3 [(0, .ref (ad (n + 1) 5)), (1, .int p1)] := hl
  rw [f2_add] at hF
  refine r_aload_n cx dX2_add_0 (lv_at hl 0 rfl) ?_
  refine gf2_19 cx hP hn dX2_add_1 hF (fun v1 hF => ?_)
  refine r_istore_n cx [(2, .int v1), (0, .ref (ad (n + 1) 5)), (1, .int p1)] dX2_add_4 hl (by decide) rfl (fun ls hl => ?_)
  refine r_aload_n cx dX2_add_5 (lv_at hl 1 rfl) ?_
  refine gf2_9 cx hP hn dX2_add_6 ?_
  refine r_iload_n cx dX2_add_9 (lv_at hl 0 rfl) ?_
  refine r_iload_n cx dX2_add_10 (lv_at hl 2 rfl) ?_
  refine r_iast cx hP (dXg hn (by decide)) (fun _ => rfl) dX2_add_11 hF (fun s2 H locs hP hF => ?_)
  refine r_aload_n cx dX2_add_12 (lv_at hl 1 rfl) ?_
  refine gf2_15 cx hP hn dX2_add_13 ?_
  refine r_iload_n cx dX2_add_16 (lv_at hl 0 rfl) ?_
  refine r_iconst cx 0 dX2_add_17 (by decide) ?_
  refine r_zast cx hP (dXg hn (by decide)) (fun _ => rfl) dX2_add_18 hF (fun s3 H locs hP hF => ?_)
  refine r_aload_n cx dX2_add_19 (lv_at hl 1 rfl) ?_
  refine r_dup cx dX2_add_20 rfl ?_
  refine gf2_19 cx hP hn dX2_add_21 hF (fun v4 hF => ?_)
  refine r_iconst cx 1 dX2_add_24 (by decide) ?_
  refine r_iadd cx dX2_add_25 hF (fun v5 hF => ?_)
  refine pf2_19 cx hP hn dX2_add_26 hF (fun s6 H locs hP hF => ?_)
  refine r_iload_n cx dX2_add_29 (lv_at hl 0 rfl) ?_
  exact r_iret cx hP hr hk dX2_add_30 hF
set_option maxHeartbeats 4000000 in
set_option maxRecDepth 100000 in
theorem w4_sellPass (l : Launch) (Γ : Wc) (ad : Nat → Nat → Nat) (A : Nat → Prop) (n : Nat) (hn : n < 11) (p1 : Int32) (p2 : Int32) (p3 : Int32) (p4 : Int32) (σ : Sig) (r : Int32) (σ1 : Sig) (hF : f4_sellPass n p1 p2 p3 p4 σ = some (r, σ1)) : MI l SX Γ ad A yX4_sellPass cX4_sellPass 7 (some .int) 2 45 [.ref (ad (n + 1) 0), .int p1, .int p2, .int p3, .int p4] σ r σ1 := by
  refine MI.of (by decide) (Nat.le_of_ble_eq_true rfl) ?_
  intro p e s m args below meth c ls cx hr hk hP hl
  have hl : lv_has ls 7 [(0, .ref (ad (n + 1) 0)), (1, .int p1), (2, .int p2), (3, .int p3), (4, .int p4)] := hl
  rw [f4_sellPass] at hF
  refine r_aload_n cx dX4_sellPass_0 (lv_at hl 0 rfl) ?_
  refine gf4_21 cx hP hn dX4_sellPass_1 ?_
  refine r_iload_n cx dX4_sellPass_4 (lv_at hl 1 rfl) ?_
  refine r_iload_n cx dX4_sellPass_5 (lv_at hl 3 rfl) ?_
  refine r_iload cx dX4_sellPass_6 (lv_at hl 4 rfl) ?_
  obtain ⟨v1, hc, hF⟩ := bnd_some hF
  refine r_callVi cx hP (As := [.int p1, .int p3, .int p4]) (w10_priceOfPass l Γ ad A n hn p1 p3 p4 σ v1 hc) mw4_105 ⟨Nat.le_of_ble_eq_true rfl, Nat.le_of_ble_eq_true rfl⟩ (dXg hn (by decide)) rfl rfl rfl (Nat.le_of_ble_eq_true rfl) hl.1 ⟨Nat.zero_le _, Nat.zero_le _⟩ dX4_sellPass_8 (fun H locs hP => ?_)
  refine r_istore cx [(5, .int v1), (0, .ref (ad (n + 1) 0)), (1, .int p1), (2, .int p2), (3, .int p3), (4, .int p4)] dX4_sellPass_11 hl (by decide) rfl (fun ls hl => ?_)
  refine r_aload_n cx dX4_sellPass_13 (lv_at hl 1 rfl) ?_
  refine gf4_35 cx hP hn dX4_sellPass_14 ?_
  refine r_iload_n cx dX4_sellPass_17 (lv_at hl 2 rfl) ?_
  refine r_iload_n cx dX4_sellPass_18 (lv_at hl 3 rfl) ?_
  refine r_iload_n cx dX4_sellPass_19 (lv_at hl 4 rfl) ?_
  refine r_iload cx dX4_sellPass_20 (lv_at hl 5 rfl) ?_
  refine r_iload cx dX4_sellPass_22 (lv_at hl 0 rfl) ?_
  obtain ⟨v2, s3, hc, hF⟩ := bns_some hF
  refine r_callVi cx hP (As := [.int p1, .int p2, .int p3, .int p4, .int v1]) (w7_add l Γ ad A n hn p1 p2 p3 p4 v1 σ v2 s3 hc) mw4_109 ⟨Nat.le_of_ble_eq_true rfl, Nat.le_of_ble_eq_true rfl⟩ (dXg hn (by decide)) rfl rfl rfl (Nat.le_of_ble_eq_true rfl) hl.1 ⟨Nat.zero_le _, Nat.zero_le _⟩ dX4_sellPass_24 (fun H locs hP => ?_)
  refine r_istore cx [(6, .int v2), (5, .int v1), (0, .ref (ad (n + 1) 0)), (1, .int p1), (2, .int p2), (3, .int p3), (4, .int p4)] dX4_sellPass_27 hl (by decide) rfl (fun ls hl => ?_)
  refine r_aload_n cx dX4_sellPass_29 (lv_at hl 2 rfl) ?_
  refine gf4_35 cx hP hn dX4_sellPass_30 ?_
  refine gf4_113 cx hP hn dX4_sellPass_33 ?_
  refine r_iload cx dX4_sellPass_36 (lv_at hl 0 rfl) ?_
  refine r_aload_n cx dX4_sellPass_38 (lv_at hl 2 rfl) ?_
  refine gf4_42 cx hP hn dX4_sellPass_39 ?_
  refine r_iload cx dX4_sellPass_42 (lv_at hl 0 rfl) ?_
  obtain ⟨v4, s5, hc, hF⟩ := bns_some hF
  refine r_callVi cx hP (As := [.int v2]) (w2_add l Γ ad A n hn v2 s3 v4 s5 hc) mw4_117 ⟨Nat.le_of_ble_eq_true rfl, Nat.le_of_ble_eq_true rfl⟩ (dXg hn (by decide)) rfl rfl rfl (Nat.le_of_ble_eq_true rfl) hl.1 ⟨Nat.zero_le _, Nat.zero_le _⟩ dX4_sellPass_44 (fun H locs hP => ?_)
  refine r_iast cx hP (dXg hn (by decide)) (fun _ => rfl) dX4_sellPass_47 hF (fun s6 H locs hP hF => ?_)
  refine r_aload_n cx dX4_sellPass_48 (lv_at hl 2 rfl) ?_
  refine gf4_49 cx hP hn dX4_sellPass_49 ?_
  refine r_dup cx dX4_sellPass_52 rfl ?_
  refine gf4_120 cx hP hn dX4_sellPass_53 hF (fun v7 hF => ?_)
  refine r_iload cx dX4_sellPass_56 (lv_at hl 1 rfl) ?_
  refine r_iadd cx dX4_sellPass_58 hF (fun v8 hF => ?_)
  refine pf4_120 cx hP hn dX4_sellPass_59 hF (fun s9 H locs hP hF => ?_)
  refine r_iload cx dX4_sellPass_62 (lv_at hl 0 rfl) ?_
  exact r_iret cx hP hr hk dX4_sellPass_64 hF
set_option maxHeartbeats 4000000 in
set_option maxRecDepth 100000 in
theorem w9_readSell (l : Launch) (Γ : Wc) (ad : Nat → Nat → Nat) (A : Nat → Prop)  (σ : Sig) (σ1 : Sig) (hF : f9_readSell  σ = some σ1) : MV l SX Γ ad A yX9_readSell cX9_readSell 5 6 128 [.ref (ad 0 3)] σ σ1 := by
  refine MV.of (by decide) (Nat.le_of_ble_eq_true rfl) ?_
  intro p e s m args below meth c ls cx hr hk hP hl
  have hl : lv_has ls 5 [(0, .ref (ad 0 3))] := hl
  rw [f9_readSell] at hF
  refine r_aload_n cx dX9_readSell_0 (lv_at hl 0 rfl) ?_
  refine r_iconst cx 1 dX9_readSell_1 (by decide) ?_
  refine r_aload_n cx dX9_readSell_2 (lv_at hl 0 rfl) ?_
  refine gf9_12 cx hP dX9_readSell_3 ?_
  refine gf9_76 cx hP (by decide : 10 < 11) dX9_readSell_6 ?_
  obtain ⟨v1, hc, hF⟩ := bnd_some hF
  refine r_callVi cx hP (As := []) (w10_setOfAllScents l Γ ad A 10 (by decide : 10 < 11) σ v1 hc) mw9_161 ⟨Nat.le_of_ble_eq_true rfl, Nat.le_of_ble_eq_true rfl⟩ (dXg (by decide : 10 < 11) (by decide)) rfl rfl rfl (Nat.le_of_ble_eq_true rfl) hl.1 ⟨Nat.zero_le _, Nat.zero_le _⟩ dX9_readSell_9 (fun H locs hP => ?_)
  obtain ⟨v2, s3, hc, hF⟩ := bns_some hF
  refine r_callVi cx hP (As := [.int 1, .int v1]) (w9_nextNumber l Γ ad A 1 v1 σ v2 s3 hc) mw9_141 ⟨Nat.le_of_ble_eq_true rfl, Nat.le_of_ble_eq_true rfl⟩ (dXr (by decide)) rfl rfl rfl (Nat.le_of_ble_eq_true rfl) hl.1 ⟨Nat.zero_le _, Nat.zero_le _⟩ dX9_readSell_12 (fun H locs hP => ?_)
  refine r_istore_n cx [(1, .int v2), (0, .ref (ad 0 3))] dX9_readSell_15 hl (by decide) rfl (fun ls hl => ?_)
  refine r_aload_n cx dX9_readSell_16 (lv_at hl 1 rfl) ?_
  refine r_aload_n cx dX9_readSell_17 (lv_at hl 1 rfl) ?_
  refine gf9_12 cx hP dX9_readSell_18 ?_
  refine gf9_165 cx hP (by decide : 10 < 11) dX9_readSell_21 ?_
  obtain ⟨v4, hc, hF⟩ := bnd_some hF
  refine r_callVi cx hP (As := []) (w3_today l Γ ad A 10 (by decide : 10 < 11) s3 v4 hc) mw9_169 ⟨Nat.le_of_ble_eq_true rfl, Nat.le_of_ble_eq_true rfl⟩ (dXg (by decide : 10 < 11) (by decide)) rfl rfl rfl (Nat.le_of_ble_eq_true rfl) hl.1 ⟨Nat.zero_le _, Nat.zero_le _⟩ dX9_readSell_24 (fun H locs hP => ?_)
  refine r_bipush cx 99 dX9_readSell_27 (by decide) ?_
  obtain ⟨v5, s6, hc, hF⟩ := bns_some hF
  refine r_callVi cx hP (As := [.int v4, .int 99]) (w9_nextNumber l Γ ad A v4 99 s3 v5 s6 hc) mw9_141 ⟨Nat.le_of_ble_eq_true rfl, Nat.le_of_ble_eq_true rfl⟩ (dXr (by decide)) rfl rfl rfl (Nat.le_of_ble_eq_true rfl) hl.1 ⟨Nat.zero_le _, Nat.zero_le _⟩ dX9_readSell_29 (fun H locs hP => ?_)
  refine r_istore_n cx [(2, .int v5), (1, .int v2), (0, .ref (ad 0 3))] dX9_readSell_32 hl (by decide) rfl (fun ls hl => ?_)
  refine r_aload_n cx dX9_readSell_33 (lv_at hl 2 rfl) ?_
  refine r_iconst cx 1 dX9_readSell_34 (by decide) ?_
  refine r_bipush cx 14 dX9_readSell_35 (by decide) ?_
  obtain ⟨v7, s8, hc, hF⟩ := bns_some hF
  refine r_callVi cx hP (As := [.int 1, .int 14]) (w9_nextNumber l Γ ad A 1 14 s6 v7 s8 hc) mw9_141 ⟨Nat.le_of_ble_eq_true rfl, Nat.le_of_ble_eq_true rfl⟩ (dXr (by decide)) rfl rfl rfl (Nat.le_of_ble_eq_true rfl) hl.1 ⟨Nat.zero_le _, Nat.zero_le _⟩ dX9_readSell_37 (fun H locs hP => ?_)
  refine r_istore_n cx [(3, .int v7), (2, .int v5), (1, .int v2), (0, .ref (ad 0 3))] dX9_readSell_40 hl (by decide) rfl (fun ls hl => ?_)
  refine r_aload_n cx dX9_readSell_41 (lv_at hl 3 rfl) ?_
  obtain ⟨v9, s10, hc, hF⟩ := bns_some hF
  refine r_callVi cx hP (As := []) (w9_nextKind l Γ ad A s8 v9 s10 hc) mw9_174 ⟨Nat.le_of_ble_eq_true rfl, Nat.le_of_ble_eq_true rfl⟩ (dXr (by decide)) rfl rfl rfl (Nat.le_of_ble_eq_true rfl) hl.1 ⟨Nat.zero_le _, Nat.zero_le _⟩ dX9_readSell_42 (fun H locs hP => ?_)
  refine r_istore cx [(4, .int v9), (3, .int v7), (2, .int v5), (1, .int v2), (0, .ref (ad 0 3))] dX9_readSell_45 hl (by decide) rfl (fun ls hl => ?_)
  refine r_aload_n cx dX9_readSell_47 (lv_at hl 4 rfl) ?_
  obtain ⟨v11, s12, hc, hF⟩ := bns_some hF
  refine r_callVi cx hP (As := []) (w9_isComplete l Γ ad A s10 v11 s12 hc) mw9_144 ⟨Nat.le_of_ble_eq_true rfl, Nat.le_of_ble_eq_true rfl⟩ (dXr (by decide)) rfl rfl rfl (Nat.le_of_ble_eq_true rfl) hl.1 ⟨Nat.zero_le _, Nat.zero_le _⟩ dX9_readSell_48 (fun H locs hP => ?_)
  refine r_if_eq cx 81 dX9_readSell_51 (by decide) hF (fun hF => ?_) (fun hF => ?_)
  · exact r_vret cx hP hr hk dX9_readSell_81 hF
  · refine r_aload_n cx dX9_readSell_54 (lv_at hl 4 rfl) ?_
    refine r_aload_n cx dX9_readSell_55 (lv_at hl 4 rfl) ?_
    refine gf9_12 cx hP dX9_readSell_56 ?_
    obtain ⟨v13, hc, hF⟩ := bnd_some hF
    refine r_callVi cx hP (As := []) (w4_canSellPass l Γ ad A 10 (by decide : 10 < 11) s12 v13 hc) mw9_177 ⟨Nat.le_of_ble_eq_true rfl, Nat.le_of_ble_eq_true rfl⟩ (dXg (by decide : 10 < 11) (by decide)) rfl rfl rfl (Nat.le_of_ble_eq_true rfl) hl.1 ⟨Nat.zero_le _, Nat.zero_le _⟩ dX9_readSell_59 (fun H locs hP => ?_)
    obtain ⟨v14, s15, hc, hF⟩ := bns_some hF
    refine r_callVi cx hP (As := [.int v13]) (w9_executes l Γ ad A v13 s12 v14 s15 hc) mw9_154 ⟨Nat.le_of_ble_eq_true rfl, Nat.le_of_ble_eq_true rfl⟩ (dXr (by decide)) rfl rfl rfl (Nat.le_of_ble_eq_true rfl) hl.1 ⟨Nat.zero_le _, Nat.zero_le _⟩ dX9_readSell_62 (fun H locs hP => ?_)
    refine r_if_eq cx 81 dX9_readSell_65 (by decide) hF (fun hF => ?_) (fun hF => ?_)
    · exact r_vret cx hP hr hk dX9_readSell_81 hF
    · refine r_aload_n cx dX9_readSell_68 (lv_at hl 4 rfl) ?_
      refine gf9_12 cx hP dX9_readSell_69 ?_
      refine r_iload_n cx dX9_readSell_72 (lv_at hl 3 rfl) ?_
      refine r_iload_n cx dX9_readSell_73 (lv_at hl 2 rfl) ?_
      refine r_iload_n cx dX9_readSell_74 (lv_at hl 1 rfl) ?_
      refine r_iload cx dX9_readSell_75 (lv_at hl 0 rfl) ?_
      obtain ⟨v16, s17, hc, hF⟩ := bns_some hF
      refine r_callVi cx hP (As := [.int v2, .int v5, .int v7, .int v9]) (w4_sellPass l Γ ad A 10 (by decide : 10 < 11) v2 v5 v7 v9 s15 v16 s17 hc) mw9_180 ⟨Nat.le_of_ble_eq_true rfl, Nat.le_of_ble_eq_true rfl⟩ (dXg (by decide : 10 < 11) (by decide)) rfl rfl rfl (Nat.le_of_ble_eq_true rfl) hl.1 ⟨Nat.zero_le _, Nat.zero_le _⟩ dX9_readSell_77 (fun H locs hP => ?_)
      refine r_pop cx dX9_readSell_80 rfl ?_
      exact r_vret cx hP hr hk dX9_readSell_81 hF
set_option maxHeartbeats 4000000 in
set_option maxRecDepth 100000 in
theorem w3_tickOfDay (l : Launch) (Γ : Wc) (ad : Nat → Nat → Nat) (A : Nat → Prop) (n : Nat) (hn : n < 11) (σ : Sig) (r : Int32) (hF : f3_tickOfDay n σ = some r) : MI l SX Γ ad A yX3_tickOfDay cX3_tickOfDay 1 (some .int) 0 0 [.ref (ad (n + 1) 1)] σ r σ := by
  refine MI.of (by decide) (Nat.le_of_ble_eq_true rfl) ?_
  intro p e s m args below meth c ls cx hr hk hP hl
  have hl : lv_has ls 1 [(0, .ref (ad (n + 1) 1))] := hl
  rw [f3_tickOfDay] at hF
  refine r_aload_n cx dX3_tickOfDay_0 (lv_at hl 0 rfl) ?_
  refine gf3_9 cx hP hn dX3_tickOfDay_1 hF (fun v1 hF => ?_)
  refine r_bipush cx 96 dX3_tickOfDay_4 (by decide) ?_
  refine r_irem cx dX3_tickOfDay_6 hF (fun v2 hF => ?_)
  exact r_iret cx hP hr hk dX3_tickOfDay_7 (prF hF)
set_option maxHeartbeats 4000000 in
set_option maxRecDepth 100000 in
theorem w3_isOpenIn (l : Launch) (Γ : Wc) (ad : Nat → Nat → Nat) (A : Nat → Prop) (n : Nat) (hn : n < 11) (p1 : Int32) (σ : Sig) (r : Int32) (hF : f3_isOpenIn n p1 σ = some r) : MI l SX Γ ad A yX3_isOpenIn cX3_isOpenIn 3 (some .boolean) 0 0 [.ref (ad (n + 1) 1), .int p1] σ r σ := by
  refine MI.of (by decide) (Nat.le_of_ble_eq_true rfl) ?_
  intro p e s m args below meth c ls cx hr hk hP hl
  have hl : lv_has ls 3 [(0, .ref (ad (n + 1) 1)), (1, .int p1)] := hl
  rw [f3_isOpenIn] at hF
  generalize hH0 : s.heap = H0 at hP ⊢
  generalize ([] : List Loc) = locs0 at hP ⊢
  clear hH0
  have b21 : ∀ (x1 : Int32) (t0 : Int32) (H : Heap) (locs : List Loc) (ls : Array Slot), PS SX Γ ad A s σ H locs → lv_has ls 3 [(1, .int x1)] → f3_isOpenIn_b21 n x1 t0 σ = some r → W p l e (rmz 0 0) s m args below meth c H locs 0 0 (QI SX Γ ad A below args s r σ) (F0 m 21 ls [.int t0]) := by
    intro x1 t0 H locs ls hP hl hF
    rw [f3_isOpenIn_b21] at hF
    refine r_istore_n cx [(2, .int t0), (1, .int x1)] dX3_isOpenIn_21 hl (by decide) rfl (fun ls hl => ?_)
    refine r_iload_n cx dX3_isOpenIn_22 (lv_at hl 1 rfl) ?_
    refine r_bipush cx 32 dX3_isOpenIn_23 (by decide) ?_
    refine r_icmp_lt cx 42 dX3_isOpenIn_25 (by decide) hF (fun hF => ?_) (fun hF => ?_)
    · refine r_iconst cx 0 dX3_isOpenIn_42 (by decide) ?_
      exact r_zret cx hP hr hk (by decide) dX3_isOpenIn_43 (prF hF)
    · refine r_iload_n cx dX3_isOpenIn_28 (lv_at hl 1 rfl) ?_
      refine r_bipush cx 67 dX3_isOpenIn_29 (by decide) ?_
      refine r_icmp_gt cx 42 dX3_isOpenIn_31 (by decide) hF (fun hF => ?_) (fun hF => ?_)
      · refine r_iconst cx 0 dX3_isOpenIn_42 (by decide) ?_
        exact r_zret cx hP hr hk (by decide) dX3_isOpenIn_43 (prF hF)
      · refine r_iload_n cx dX3_isOpenIn_34 (lv_at hl 0 rfl) ?_
        refine r_if_ne cx 42 dX3_isOpenIn_35 (by decide) hF (fun hF => ?_) (fun hF => ?_)
        · refine r_iconst cx 0 dX3_isOpenIn_42 (by decide) ?_
          exact r_zret cx hP hr hk (by decide) dX3_isOpenIn_43 (prF hF)
        · refine r_iconst cx 1 dX3_isOpenIn_38 (by decide) ?_
          refine r_goto cx 43 dX3_isOpenIn_39 (by decide) ?_
          exact r_zret cx hP hr hk (by decide) dX3_isOpenIn_43 (prF hF)
  have b20 : ∀ (x1 : Int32) (H : Heap) (locs : List Loc) (ls : Array Slot), PS SX Γ ad A s σ H locs → lv_has ls 3 [(1, .int x1)] → f3_isOpenIn_b20 n x1 σ = some r → W p l e (rmz 0 0) s m args below meth c H locs 0 0 (QI SX Γ ad A below args s r σ) (F0 m 20 ls []) := by
    intro x1 H locs ls hP hl hF
    rw [f3_isOpenIn_b20] at hF
    refine r_iconst cx 0 dX3_isOpenIn_20 (by decide) ?_
    exact b21 x1 0 _ _ _ hP (lv_sub hl [0] rfl) hF
  refine r_iload_n cx dX3_isOpenIn_0 (lv_at hl 1 rfl) ?_
  refine r_aload_n cx dX3_isOpenIn_1 (lv_at hl 0 rfl) ?_
  refine gf3_19 cx hP hn dX3_isOpenIn_2 hF (fun v1 hF => ?_)
  refine r_icmp_lt cx 20 dX3_isOpenIn_5 (by decide) hF (fun hF => ?_) (fun hF => ?_)
  · exact b20 p1 _ _ _ hP (lv_sub hl [1] rfl) hF
  · refine r_iload_n cx dX3_isOpenIn_8 (lv_at hl 1 rfl) ?_
    refine r_aload_n cx dX3_isOpenIn_9 (lv_at hl 0 rfl) ?_
    refine gf3_22 cx hP hn dX3_isOpenIn_10 hF (fun v2 hF => ?_)
    refine r_icmp_gt cx 20 dX3_isOpenIn_13 (by decide) hF (fun hF => ?_) (fun hF => ?_)
    · exact b20 p1 _ _ _ hP (lv_sub hl [1] rfl) hF
    · refine r_iconst cx 1 dX3_isOpenIn_16 (by decide) ?_
      refine r_goto cx 21 dX3_isOpenIn_17 (by decide) ?_
      exact b21 p1 1 _ _ _ hP (lv_sub hl [1] rfl) hF
set_option maxHeartbeats 4000000 in
set_option maxRecDepth 100000 in
theorem w7_isValidOn (l : Launch) (Γ : Wc) (ad : Nat → Nat → Nat) (A : Nat → Prop) (n : Nat) (hn : n < 11) (p1 : Int32) (p2 : Int32) (σ : Sig) (r : Int32) (hF : f7_isValidOn n p1 p2 σ = some r) : MI l SX Γ ad A yX7_isValidOn cX7_isValidOn 3 (some .boolean) 0 0 [.ref (ad (n + 1) 4), .int p1, .int p2] σ r σ := by
  refine MI.of (by decide) (Nat.le_of_ble_eq_true rfl) ?_
  intro p e s m args below meth c ls cx hr hk hP hl
  have hl : lv_has ls 3 [(0, .ref (ad (n + 1) 4)), (1, .int p1), (2, .int p2)] := hl
  rw [f7_isValidOn] at hF
  refine r_iload_n cx dX7_isValidOn_0 (lv_at hl 2 rfl) ?_
  refine r_aload_n cx dX7_isValidOn_1 (lv_at hl 0 rfl) ?_
  refine gf7_15 cx hP hn dX7_isValidOn_2 ?_
  refine r_iload_n cx dX7_isValidOn_5 (lv_at hl 1 rfl) ?_
  refine r_iald cx hP (dXg hn (by decide)) rfl dX7_isValidOn_6 hF (fun v1 hF => ?_)
  refine r_icmp_lt cx 31 dX7_isValidOn_7 (by decide) hF (fun hF => ?_) (fun hF => ?_)
  · refine r_iconst cx 0 dX7_isValidOn_31 (by decide) ?_
    exact r_zret cx hP hr hk (by decide) dX7_isValidOn_32 (prF hF)
  · refine r_iload_n cx dX7_isValidOn_10 (lv_at hl 2 rfl) ?_
    refine r_aload_n cx dX7_isValidOn_11 (lv_at hl 0 rfl) ?_
    refine gf7_15 cx hP hn dX7_isValidOn_12 ?_
    refine r_iload_n cx dX7_isValidOn_15 (lv_at hl 1 rfl) ?_
    refine r_iald cx hP (dXg hn (by decide)) rfl dX7_isValidOn_16 hF (fun v2 hF => ?_)
    refine r_aload_n cx dX7_isValidOn_17 (lv_at hl 0 rfl) ?_
    refine gf7_18 cx hP hn dX7_isValidOn_18 ?_
    refine r_iload_n cx dX7_isValidOn_21 (lv_at hl 1 rfl) ?_
    refine r_iald cx hP (dXg hn (by decide)) rfl dX7_isValidOn_22 hF (fun v3 hF => ?_)
    refine r_iadd cx dX7_isValidOn_23 hF (fun v4 hF => ?_)
    refine r_icmp_ge cx 31 dX7_isValidOn_24 (by decide) hF (fun hF => ?_) (fun hF => ?_)
    · refine r_iconst cx 0 dX7_isValidOn_31 (by decide) ?_
      exact r_zret cx hP hr hk (by decide) dX7_isValidOn_32 (prF hF)
    · refine r_iconst cx 1 dX7_isValidOn_27 (by decide) ?_
      refine r_goto cx 32 dX7_isValidOn_28 (by decide) ?_
      exact r_zret cx hP hr hk (by decide) dX7_isValidOn_32 (prF hF)
set_option maxHeartbeats 4000000 in
set_option maxRecDepth 100000 in
theorem w7_hasScent (l : Launch) (Γ : Wc) (ad : Nat → Nat → Nat) (A : Nat → Prop) (n : Nat) (hn : n < 11) (p1 : Int32) (p2 : Int32) (σ : Sig) (r : Int32) (hF : f7_hasScent n p1 p2 σ = some r) : MI l SX Γ ad A yX7_hasScent cX7_hasScent 3 (some .boolean) 0 0 [.ref (ad (n + 1) 4), .int p1, .int p2] σ r σ := by
  refine MI.of (by decide) (Nat.le_of_ble_eq_true rfl) ?_
  intro p e s m args below meth c ls cx hr hk hP hl
  have hl : lv_has ls 3 [(0, .ref (ad (n + 1) 4)), (1, .int p1), (2, .int p2)] := hl
  rw [f7_hasScent] at hF
  refine r_aload_n cx dX7_hasScent_0 (lv_at hl 0 rfl) ?_
  refine gf7_9 cx hP hn dX7_hasScent_1 ?_
  refine r_iload_n cx dX7_hasScent_4 (lv_at hl 1 rfl) ?_
  refine r_iald cx hP (dXg hn (by decide)) rfl dX7_hasScent_5 hF (fun v1 hF => ?_)
  refine r_iload_n cx dX7_hasScent_6 (lv_at hl 2 rfl) ?_
  refine r_ishr cx dX7_hasScent_7 hF (fun v2 hF => ?_)
  refine r_iconst cx 1 dX7_hasScent_8 (by decide) ?_
  refine r_iand cx dX7_hasScent_9 hF (fun v3 hF => ?_)
  refine r_iconst cx 1 dX7_hasScent_10 (by decide) ?_
  refine r_icmp_ne cx 18 dX7_hasScent_11 (by decide) hF (fun hF => ?_) (fun hF => ?_)
  · refine r_iconst cx 0 dX7_hasScent_18 (by decide) ?_
    exact r_zret cx hP hr hk (by decide) dX7_hasScent_19 (prF hF)
  · refine r_iconst cx 1 dX7_hasScent_14 (by decide) ?_
    refine r_goto cx 19 dX7_hasScent_15 (by decide) ?_
    exact r_zret cx hP hr hk (by decide) dX7_hasScent_19 (prF hF)
set_option maxHeartbeats 4000000 in
set_option maxRecDepth 100000 in
theorem w4_waitForNextVisit (l : Launch) (Γ : Wc) (ad : Nat → Nat → Nat) (A : Nat → Prop) (n : Nat) (hn : n < 11) (p1 : Int32) (σ : Sig) (r : Int32) (hF : f4_waitForNextVisit n p1 σ = some r) : MI l SX Γ ad A yX4_waitForNextVisit cX4_waitForNextVisit 3 (some .int) 0 0 [.ref (ad (n + 1) 0), .int p1] σ r σ := by
  refine MI.of (by decide) (Nat.le_of_ble_eq_true rfl) ?_
  intro p e s m args below meth c ls cx hr hk hP hl
  have hl : lv_has ls 3 [(0, .ref (ad (n + 1) 0)), (1, .int p1)] := hl
  rw [f4_waitForNextVisit] at hF
  refine r_aload_n cx dX4_waitForNextVisit_0 (lv_at hl 0 rfl) ?_
  refine gf4_35 cx hP hn dX4_waitForNextVisit_1 ?_
  refine gf4_183 cx hP hn dX4_waitForNextVisit_4 ?_
  refine r_iload_n cx dX4_waitForNextVisit_7 (lv_at hl 1 rfl) ?_
  refine r_iald cx hP (dXg hn (by decide)) rfl dX4_waitForNextVisit_8 hF (fun v1 hF => ?_)
  refine r_aload_n cx dX4_waitForNextVisit_9 (lv_at hl 0 rfl) ?_
  refine gf4_64 cx hP hn dX4_waitForNextVisit_10 hF (fun v2 hF => ?_)
  refine r_iadd cx dX4_waitForNextVisit_13 hF (fun v3 hF => ?_)
  refine r_istore_n cx [(2, .int v3), (0, .ref (ad (n + 1) 0)), (1, .int p1)] dX4_waitForNextVisit_14 hl (by decide) rfl (fun ls hl => ?_)
  refine r_aload_n cx dX4_waitForNextVisit_15 (lv_at hl 1 rfl) ?_
  refine gf4_35 cx hP hn dX4_waitForNextVisit_16 ?_
  refine gf4_183 cx hP hn dX4_waitForNextVisit_19 ?_
  refine r_iload_n cx dX4_waitForNextVisit_22 (lv_at hl 2 rfl) ?_
  refine r_iald cx hP (dXg hn (by decide)) rfl dX4_waitForNextVisit_23 hF (fun v4 hF => ?_)
  refine r_iconst cx (-1) dX4_waitForNextVisit_24 (by decide) ?_
  refine r_icmp_eq cx 39 dX4_waitForNextVisit_25 (by decide) hF (fun hF => ?_) (fun hF => ?_)
  · refine r_iconst cx 0 dX4_waitForNextVisit_39 (by decide) ?_
    exact r_iret cx hP hr hk dX4_waitForNextVisit_40 (prF hF)
  · refine r_iload_n cx dX4_waitForNextVisit_28 (lv_at hl 0 rfl) ?_
    refine r_aload_n cx dX4_waitForNextVisit_29 (lv_at hl 1 rfl) ?_
    refine gf4_12 cx hP hn dX4_waitForNextVisit_30 ?_
    refine gf4_90 cx hP hn dX4_waitForNextVisit_33 hF (fun v5 hF => ?_)
    refine r_icmp_ge cx 41 dX4_waitForNextVisit_36 (by decide) hF (fun hF => ?_) (fun hF => ?_)
    · refine r_iload_n cx dX4_waitForNextVisit_41 (lv_at hl 0 rfl) ?_
      refine r_aload_n cx dX4_waitForNextVisit_42 (lv_at hl 1 rfl) ?_
      refine gf4_12 cx hP hn dX4_waitForNextVisit_43 ?_
      refine gf4_90 cx hP hn dX4_waitForNextVisit_46 hF (fun v6 hF => ?_)
      refine r_isub cx dX4_waitForNextVisit_49 hF (fun v7 hF => ?_)
      exact r_iret cx hP hr hk dX4_waitForNextVisit_50 (prF hF)
    · refine r_iconst cx 0 dX4_waitForNextVisit_39 (by decide) ?_
      exact r_iret cx hP hr hk dX4_waitForNextVisit_40 (prF hF)
set_option maxHeartbeats 4000000 in
set_option maxRecDepth 100000 in
theorem w0_freePlaces (l : Launch) (Γ : Wc) (ad : Nat → Nat → Nat) (A : Nat → Prop) (n : Nat) (hn : n < 11) (p1 : Int32) (σ : Sig) (r : Int32) (hF : f0_freePlaces n p1 σ = some r) : MI l SX Γ ad A yX0_freePlaces cX0_freePlaces 2 (some .int) 0 0 [.ref (ad (n + 1) 3), .int p1] σ r σ := by
  refine MI.of (by decide) (Nat.le_of_ble_eq_true rfl) ?_
  intro p e s m args below meth c ls cx hr hk hP hl
  have hl : lv_has ls 2 [(0, .ref (ad (n + 1) 3)), (1, .int p1)] := hl
  rw [f0_freePlaces] at hF
  refine r_aload_n cx dX0_freePlaces_0 (lv_at hl 0 rfl) ?_
  refine gf0_15 cx hP hn dX0_freePlaces_1 ?_
  refine r_iload_n cx dX0_freePlaces_4 (lv_at hl 1 rfl) ?_
  refine r_iald cx hP (dXg hn (by decide)) rfl dX0_freePlaces_5 hF (fun v1 hF => ?_)
  refine r_aload_n cx dX0_freePlaces_6 (lv_at hl 0 rfl) ?_
  refine gf0_30 cx hP hn dX0_freePlaces_7 ?_
  refine r_iload_n cx dX0_freePlaces_10 (lv_at hl 1 rfl) ?_
  refine r_iald cx hP (dXg hn (by decide)) rfl dX0_freePlaces_11 hF (fun v2 hF => ?_)
  refine r_isub cx dX0_freePlaces_12 hF (fun v3 hF => ?_)
  exact r_iret cx hP hr hk dX0_freePlaces_13 (prF hF)
set_option maxHeartbeats 4000000 in
set_option maxRecDepth 100000 in
theorem w4_reasonOfRefusal (l : Launch) (Γ : Wc) (ad : Nat → Nat → Nat) (A : Nat → Prop) (n : Nat) (hn : n < 11) (p1 : Int32) (p2 : Int32) (σ : Sig) (r : Int32) (hF : f4_reasonOfRefusal n p1 p2 σ = some r) : MI l SX Γ ad A yX4_reasonOfRefusal cX4_reasonOfRefusal 4 (some .int) 1 22 [.ref (ad (n + 1) 0), .int p1, .int p2] σ r σ := by
  refine MI.of (by decide) (Nat.le_of_ble_eq_true rfl) ?_
  intro p e s m args below meth c ls cx hr hk hP hl
  have hl : lv_has ls 4 [(0, .ref (ad (n + 1) 0)), (1, .int p1), (2, .int p2)] := hl
  rw [f4_reasonOfRefusal] at hF
  refine r_aload_n cx dX4_reasonOfRefusal_0 (lv_at hl 0 rfl) ?_
  refine gf4_42 cx hP hn dX4_reasonOfRefusal_1 ?_
  refine gf4_186 cx hP hn dX4_reasonOfRefusal_4 ?_
  refine r_iload_n cx dX4_reasonOfRefusal_7 (lv_at hl 1 rfl) ?_
  refine r_iald cx hP (dXg hn (by decide)) rfl dX4_reasonOfRefusal_8 hF (fun v1 hF => ?_)
  refine r_istore_n cx [(3, .int v1), (0, .ref (ad (n + 1) 0)), (1, .int p1), (2, .int p2)] dX4_reasonOfRefusal_9 hl (by decide) rfl (fun ls hl => ?_)
  refine r_aload_n cx dX4_reasonOfRefusal_10 (lv_at hl 1 rfl) ?_
  refine gf4_12 cx hP hn dX4_reasonOfRefusal_11 ?_
  refine r_aload_n cx dX4_reasonOfRefusal_14 (lv_at hl 1 rfl) ?_
  refine gf4_12 cx hP hn dX4_reasonOfRefusal_15 ?_
  obtain ⟨v2, hc, hF⟩ := bnd_some hF
  refine r_callVi cx hP (As := []) (w3_tickOfDay l Γ ad A n hn σ v2 hc) mw4_189 ⟨Nat.le_of_ble_eq_true rfl, Nat.le_of_ble_eq_true rfl⟩ (dXg hn (by decide)) rfl rfl rfl (Nat.le_of_ble_eq_true rfl) hl.1 ⟨Nat.zero_le _, Nat.zero_le _⟩ dX4_reasonOfRefusal_18 (fun H locs hP => ?_)
  obtain ⟨v3, hc, hF⟩ := bnd_some hF
  refine r_callVi cx hP (As := [.int v2]) (w3_isOpenIn l Γ ad A n hn v2 σ v3 hc) mw4_192 ⟨Nat.le_of_ble_eq_true rfl, Nat.le_of_ble_eq_true rfl⟩ (dXg hn (by decide)) rfl rfl rfl (Nat.le_of_ble_eq_true rfl) hl.1 ⟨Nat.zero_le _, Nat.zero_le _⟩ dX4_reasonOfRefusal_21 (fun H locs hP => ?_)
  refine r_if_ne cx 29 dX4_reasonOfRefusal_24 (by decide) hF (fun hF => ?_) (fun hF => ?_)
  · refine r_aload_n cx dX4_reasonOfRefusal_29 (lv_at hl 1 rfl) ?_
    refine gf4_42 cx hP hn dX4_reasonOfRefusal_30 ?_
    refine gf4_152 cx hP hn dX4_reasonOfRefusal_33 ?_
    refine r_iload_n cx dX4_reasonOfRefusal_36 (lv_at hl 2 rfl) ?_
    refine r_zald cx hP (dXg hn (by decide)) rfl dX4_reasonOfRefusal_37 hF (fun v4 hF => ?_)
    refine r_if_eq cx 43 dX4_reasonOfRefusal_38 (by decide) hF (fun hF => ?_) (fun hF => ?_)
    · refine r_aload_n cx dX4_reasonOfRefusal_43 (lv_at hl 1 rfl) ?_
      refine gf4_35 cx hP hn dX4_reasonOfRefusal_44 ?_
      refine r_iload_n cx dX4_reasonOfRefusal_47 (lv_at hl 0 rfl) ?_
      refine r_aload_n cx dX4_reasonOfRefusal_48 (lv_at hl 1 rfl) ?_
      refine gf4_12 cx hP hn dX4_reasonOfRefusal_49 ?_
      obtain ⟨v5, hc, hF⟩ := bnd_some hF
      refine r_callVi cx hP (As := []) (w3_today l Γ ad A n hn σ v5 hc) mw4_86 ⟨Nat.le_of_ble_eq_true rfl, Nat.le_of_ble_eq_true rfl⟩ (dXg hn (by decide)) rfl rfl rfl (Nat.le_of_ble_eq_true rfl) hl.1 ⟨Nat.zero_le _, Nat.zero_le _⟩ dX4_reasonOfRefusal_52 (fun H locs hP => ?_)
      obtain ⟨v6, hc, hF⟩ := bnd_some hF
      refine r_callVi cx hP (As := [.int v1, .int v5]) (w7_isValidOn l Γ ad A n hn v1 v5 σ v6 hc) mw4_195 ⟨Nat.le_of_ble_eq_true rfl, Nat.le_of_ble_eq_true rfl⟩ (dXg hn (by decide)) rfl rfl rfl (Nat.le_of_ble_eq_true rfl) hl.1 ⟨Nat.zero_le _, Nat.zero_le _⟩ dX4_reasonOfRefusal_55 (fun H locs hP => ?_)
      refine r_if_ne cx 63 dX4_reasonOfRefusal_58 (by decide) hF (fun hF => ?_) (fun hF => ?_)
      · refine r_aload_n cx dX4_reasonOfRefusal_63 (lv_at hl 1 rfl) ?_
        refine gf4_35 cx hP hn dX4_reasonOfRefusal_64 ?_
        refine r_iload_n cx dX4_reasonOfRefusal_67 (lv_at hl 0 rfl) ?_
        refine r_aload_n cx dX4_reasonOfRefusal_68 (lv_at hl 1 rfl) ?_
        refine gf4_28 cx hP hn dX4_reasonOfRefusal_69 ?_
        refine gf4_199 cx hP hn dX4_reasonOfRefusal_72 ?_
        refine r_iload_n cx dX4_reasonOfRefusal_75 (lv_at hl 3 rfl) ?_
        refine r_iald cx hP (dXg hn (by decide)) rfl dX4_reasonOfRefusal_76 hF (fun v7 hF => ?_)
        obtain ⟨v8, hc, hF⟩ := bnd_some hF
        refine r_callVi cx hP (As := [.int v1, .int v7]) (w7_hasScent l Γ ad A n hn v1 v7 σ v8 hc) mw4_202 ⟨Nat.le_of_ble_eq_true rfl, Nat.le_of_ble_eq_true rfl⟩ (dXg hn (by decide)) rfl rfl rfl (Nat.le_of_ble_eq_true rfl) hl.1 ⟨Nat.zero_le _, Nat.zero_le _⟩ dX4_reasonOfRefusal_77 (fun H locs hP => ?_)
        refine r_if_ne cx 85 dX4_reasonOfRefusal_80 (by decide) hF (fun hF => ?_) (fun hF => ?_)
        · refine r_aload_n cx dX4_reasonOfRefusal_85 (lv_at hl 1 rfl) ?_
          refine gf4_35 cx hP hn dX4_reasonOfRefusal_86 ?_
          refine gf4_164 cx hP hn dX4_reasonOfRefusal_89 ?_
          refine r_iload_n cx dX4_reasonOfRefusal_92 (lv_at hl 0 rfl) ?_
          refine r_iald cx hP (dXg hn (by decide)) rfl dX4_reasonOfRefusal_93 hF (fun v9 hF => ?_)
          refine r_bipush cx 30 dX4_reasonOfRefusal_94 (by decide) ?_
          refine r_icmp_le cx 101 dX4_reasonOfRefusal_96 (by decide) hF (fun hF => ?_) (fun hF => ?_)
          · refine r_aload_n cx dX4_reasonOfRefusal_101 (lv_at hl 1 rfl) ?_
            refine r_iload_n cx dX4_reasonOfRefusal_102 (lv_at hl 0 rfl) ?_
            obtain ⟨v10, hc, hF⟩ := bnd_some hF
            refine r_callVi cx hP (As := [.int v1]) (w4_waitForNextVisit l Γ ad A n hn v1 σ v10 hc) mw4_205 ⟨Nat.le_of_ble_eq_true rfl, Nat.le_of_ble_eq_true rfl⟩ (dXg hn (by decide)) rfl rfl rfl (Nat.le_of_ble_eq_true rfl) hl.1 ⟨Nat.zero_le _, Nat.zero_le _⟩ dX4_reasonOfRefusal_103 (fun H locs hP => ?_)
            refine r_if_le cx 112 dX4_reasonOfRefusal_106 (by decide) hF (fun hF => ?_) (fun hF => ?_)
            · refine r_aload_n cx dX4_reasonOfRefusal_112 (lv_at hl 1 rfl) ?_
              refine gf4_28 cx hP hn dX4_reasonOfRefusal_113 ?_
              refine r_iload_n cx dX4_reasonOfRefusal_116 (lv_at hl 3 rfl) ?_
              obtain ⟨v11, hc, hF⟩ := bnd_some hF
              refine r_callVi cx hP (As := [.int p2]) (w0_freePlaces l Γ ad A n hn p2 σ v11 hc) mw4_208 ⟨Nat.le_of_ble_eq_true rfl, Nat.le_of_ble_eq_true rfl⟩ (dXg hn (by decide)) rfl rfl rfl (Nat.le_of_ble_eq_true rfl) hl.1 ⟨Nat.zero_le _, Nat.zero_le _⟩ dX4_reasonOfRefusal_117 (fun H locs hP => ?_)
              refine r_if_le cx 127 dX4_reasonOfRefusal_120 (by decide) hF (fun hF => ?_) (fun hF => ?_)
              · refine r_bipush cx 7 dX4_reasonOfRefusal_127 (by decide) ?_
                exact r_iret cx hP hr hk dX4_reasonOfRefusal_129 (prF hF)
              · refine r_iconst cx 0 dX4_reasonOfRefusal_123 (by decide) ?_
                refine r_goto cx 129 dX4_reasonOfRefusal_124 (by decide) ?_
                exact r_iret cx hP hr hk dX4_reasonOfRefusal_129 (prF hF)
            · refine r_bipush cx 6 dX4_reasonOfRefusal_109 (by decide) ?_
              exact r_iret cx hP hr hk dX4_reasonOfRefusal_111 (prF hF)
          · refine r_iconst cx 5 dX4_reasonOfRefusal_99 (by decide) ?_
            exact r_iret cx hP hr hk dX4_reasonOfRefusal_100 (prF hF)
        · refine r_iconst cx 4 dX4_reasonOfRefusal_83 (by decide) ?_
          exact r_iret cx hP hr hk dX4_reasonOfRefusal_84 (prF hF)
      · refine r_iconst cx 3 dX4_reasonOfRefusal_61 (by decide) ?_
        exact r_iret cx hP hr hk dX4_reasonOfRefusal_62 (prF hF)
    · refine r_iconst cx 2 dX4_reasonOfRefusal_41 (by decide) ?_
      exact r_iret cx hP hr hk dX4_reasonOfRefusal_42 (prF hF)
  · refine r_iconst cx 1 dX4_reasonOfRefusal_27 (by decide) ?_
    exact r_iret cx hP hr hk dX4_reasonOfRefusal_28 (prF hF)
set_option maxHeartbeats 4000000 in
set_option maxRecDepth 100000 in
theorem w0_countVisit (l : Launch) (Γ : Wc) (ad : Nat → Nat → Nat) (A : Nat → Prop) (n : Nat) (hn : n < 11) (p1 : Int32) (σ : Sig) (σ1 : Sig) (hF : f0_countVisit n p1 σ = some σ1) : MV l SX Γ ad A yX0_countVisit cX0_countVisit 2 0 0 [.ref (ad (n + 1) 3), .int p1] σ σ1 := by
  refine MV.of (by decide) (Nat.le_of_ble_eq_true rfl) ?_
  intro p e s m args below meth c ls cx hr hk hP hl
  have hl : lv_has ls 2 [(0, .ref (ad (n + 1) 3)), (1, .int p1)] := hl
  rw [f0_countVisit] at hF
  refine r_aload_n cx dX0_countVisit_0 (lv_at hl 0 rfl) ?_
  refine gf0_27 cx hP hn dX0_countVisit_1 ?_
  refine r_iload_n cx dX0_countVisit_4 (lv_at hl 1 rfl) ?_
  refine r_dup2 cx dX0_countVisit_5 rfl rfl ?_
  refine r_iald cx hP (dXg hn (by decide)) rfl dX0_countVisit_6 hF (fun v1 hF => ?_)
  refine r_iconst cx 1 dX0_countVisit_7 (by decide) ?_
  refine r_iadd cx dX0_countVisit_8 hF (fun v2 hF => ?_)
  refine r_iast cx hP (dXg hn (by decide)) (fun _ => rfl) dX0_countVisit_9 hF (fun s3 H locs hP hF => ?_)
  refine r_aload_n cx dX0_countVisit_10 (lv_at hl 0 rfl) ?_
  refine gf0_30 cx hP hn dX0_countVisit_11 ?_
  refine r_iload_n cx dX0_countVisit_14 (lv_at hl 1 rfl) ?_
  refine r_dup2 cx dX0_countVisit_15 rfl rfl ?_
  refine r_iald cx hP (dXg hn (by decide)) rfl dX0_countVisit_16 hF (fun v4 hF => ?_)
  refine r_iconst cx 1 dX0_countVisit_17 (by decide) ?_
  refine r_iadd cx dX0_countVisit_18 hF (fun v5 hF => ?_)
  refine r_iast cx hP (dXg hn (by decide)) (fun _ => rfl) dX0_countVisit_19 hF (fun s6 H locs hP hF => ?_)
  exact r_vret cx hP hr hk dX0_countVisit_20 hF
set_option maxHeartbeats 4000000 in
set_option maxRecDepth 100000 in
theorem w7_countVisit (l : Launch) (Γ : Wc) (ad : Nat → Nat → Nat) (A : Nat → Prop) (n : Nat) (hn : n < 11) (p1 : Int32) (p2 : Int32) (p3 : Int32) (p4 : Int32) (σ : Sig) (σ1 : Sig) (hF : f7_countVisit n p1 p2 p3 p4 σ = some σ1) : MV l SX Γ ad A yX7_countVisit cX7_countVisit 5 0 0 [.ref (ad (n + 1) 4), .int p1, .int p2, .int p3, .int p4] σ σ1 := by
  refine MV.of (by decide) (Nat.le_of_ble_eq_true rfl) ?_
  intro p e s m args below meth c ls cx hr hk hP hl
  have hl : lv_has ls 5 [(0, .ref (ad (n + 1) 4)), (1, .int p1), (2, .int p2), (3, .int p3), (4, .int p4)] := hl
  rw [f7_countVisit] at hF
  refine r_aload_n cx dX7_countVisit_0 (lv_at hl 0 rfl) ?_
  refine gf7_34 cx hP hn dX7_countVisit_1 ?_
  refine r_iload_n cx dX7_countVisit_4 (lv_at hl 1 rfl) ?_
  refine r_dup2 cx dX7_countVisit_5 rfl rfl ?_
  refine r_iald cx hP (dXg hn (by decide)) rfl dX7_countVisit_6 hF (fun v1 hF => ?_)
  refine r_iconst cx 1 dX7_countVisit_7 (by decide) ?_
  refine r_iload cx dX7_countVisit_8 (lv_at hl 4 rfl) ?_
  refine r_aload_n cx dX7_countVisit_10 (lv_at hl 0 rfl) ?_
  refine gf7_15 cx hP hn dX7_countVisit_11 ?_
  refine r_iload_n cx dX7_countVisit_14 (lv_at hl 1 rfl) ?_
  refine r_iald cx hP (dXg hn (by decide)) rfl dX7_countVisit_15 hF (fun v2 hF => ?_)
  refine r_isub cx dX7_countVisit_16 hF (fun v3 hF => ?_)
  refine r_ishl cx dX7_countVisit_17 hF (fun v4 hF => ?_)
  refine r_ior cx dX7_countVisit_18 hF (fun v5 hF => ?_)
  refine r_iast cx hP (dXg hn (by decide)) (fun _ => rfl) dX7_countVisit_19 hF (fun s6 H locs hP hF => ?_)
  refine r_aload_n cx dX7_countVisit_20 (lv_at hl 0 rfl) ?_
  refine gf7_37 cx hP hn dX7_countVisit_21 ?_
  refine r_iload_n cx dX7_countVisit_24 (lv_at hl 1 rfl) ?_
  refine r_dup2 cx dX7_countVisit_25 rfl rfl ?_
  refine r_iald cx hP (dXg hn (by decide)) rfl dX7_countVisit_26 hF (fun v7 hF => ?_)
  refine r_iconst cx 1 dX7_countVisit_27 (by decide) ?_
  refine r_iadd cx dX7_countVisit_28 hF (fun v8 hF => ?_)
  refine r_iast cx hP (dXg hn (by decide)) (fun _ => rfl) dX7_countVisit_29 hF (fun s9 H locs hP hF => ?_)
  refine r_aload_n cx dX7_countVisit_30 (lv_at hl 0 rfl) ?_
  refine gf7_40 cx hP hn dX7_countVisit_31 ?_
  refine r_iload_n cx dX7_countVisit_34 (lv_at hl 1 rfl) ?_
  refine r_iload_n cx dX7_countVisit_35 (lv_at hl 3 rfl) ?_
  refine r_iast cx hP (dXg hn (by decide)) (fun _ => rfl) dX7_countVisit_36 hF (fun s10 H locs hP hF => ?_)
  refine r_aload_n cx dX7_countVisit_37 (lv_at hl 0 rfl) ?_
  refine gf7_43 cx hP hn dX7_countVisit_38 ?_
  refine r_iload_n cx dX7_countVisit_41 (lv_at hl 1 rfl) ?_
  refine r_iload_n cx dX7_countVisit_42 (lv_at hl 2 rfl) ?_
  refine r_iast cx hP (dXg hn (by decide)) (fun _ => rfl) dX7_countVisit_43 hF (fun s11 H locs hP hF => ?_)
  exact r_vret cx hP hr hk dX7_countVisit_44 hF
set_option maxHeartbeats 4000000 in
set_option maxRecDepth 100000 in
theorem w4_showCard (l : Launch) (Γ : Wc) (ad : Nat → Nat → Nat) (A : Nat → Prop) (n : Nat) (hn : n < 11) (p1 : Int32) (p2 : Int32) (σ : Sig) (r : Int32) (σ1 : Sig) (hF : f4_showCard n p1 p2 σ = some (r, σ1)) : MI l SX Γ ad A yX4_showCard cX4_showCard 4 (some .int) 2 45 [.ref (ad (n + 1) 0), .int p1, .int p2] σ r σ1 := by
  refine MI.of (by decide) (Nat.le_of_ble_eq_true rfl) ?_
  intro p e s m args below meth c ls cx hr hk hP hl
  have hl : lv_has ls 4 [(0, .ref (ad (n + 1) 0)), (1, .int p1), (2, .int p2)] := hl
  rw [f4_showCard] at hF
  generalize hH0 : s.heap = H0 at hP ⊢
  generalize ([] : List Loc) = locs0 at hP ⊢
  clear hH0
  have b25 : ∀ (x1 : Int32) (x2 : Int32) (x3 : Int32) (σ : Sig) (H : Heap) (locs : List Loc) (ls : Array Slot), PS SX Γ ad A s σ H locs → lv_has ls 4 [(0, .ref (ad (n + 1) 0)), (1, .int x1), (2, .int x2), (3, .int x3)] → f4_showCard_b25 n x1 x2 x3 σ = some (r, σ1) → W p l e (rmz 2 45) s m args below meth c H locs 0 0 (QI SX Γ ad A below args s r σ1) (F0 m 25 ls []) := by
    intro x1 x2 x3 σ H locs ls hP hl hF
    rw [f4_showCard_b25] at hF
    refine r_iload_n cx dX4_showCard_25 (lv_at hl 3 rfl) ?_
    refine r_if_ne cx 68 dX4_showCard_26 (by decide) hF (fun hF => ?_) (fun hF => ?_)
    · refine r_iload_n cx dX4_showCard_68 (lv_at hl 3 rfl) ?_
      exact r_iret cx hP hr hk dX4_showCard_69 hF
    · refine r_aload_n cx dX4_showCard_29 (lv_at hl 0 rfl) ?_
      refine gf4_28 cx hP hn dX4_showCard_30 ?_
      refine r_iload_n cx dX4_showCard_33 (lv_at hl 2 rfl) ?_
      obtain ⟨s1, hc, hF⟩ := bnd_some hF
      refine r_callVv cx hP (As := [.int x2]) (w0_countVisit l Γ ad A n hn x2 σ s1 hc) mw4_217 ⟨Nat.le_of_ble_eq_true rfl, Nat.le_of_ble_eq_true rfl⟩ (dXg hn (by decide)) rfl rfl rfl (Nat.le_of_ble_eq_true rfl) hl.1 ⟨Nat.zero_le _, Nat.zero_le _⟩ dX4_showCard_34 (fun H locs hP => ?_)
      refine r_aload_n cx dX4_showCard_37 (lv_at hl 0 rfl) ?_
      refine gf4_35 cx hP hn dX4_showCard_38 ?_
      refine r_aload_n cx dX4_showCard_41 (lv_at hl 0 rfl) ?_
      refine gf4_42 cx hP hn dX4_showCard_42 ?_
      refine gf4_186 cx hP hn dX4_showCard_45 ?_
      refine r_iload_n cx dX4_showCard_48 (lv_at hl 1 rfl) ?_
      refine r_iald cx hP (dXg hn (by decide)) rfl dX4_showCard_49 hF (fun v2 hF => ?_)
      refine r_iload_n cx dX4_showCard_50 (lv_at hl 2 rfl) ?_
      refine r_aload_n cx dX4_showCard_51 (lv_at hl 0 rfl) ?_
      refine gf4_12 cx hP hn dX4_showCard_52 ?_
      refine gf4_90 cx hP hn dX4_showCard_55 hF (fun v3 hF => ?_)
      refine r_aload_n cx dX4_showCard_58 (lv_at hl 0 rfl) ?_
      refine gf4_12 cx hP hn dX4_showCard_59 ?_
      obtain ⟨v4, hc, hF⟩ := bnd_some hF
      refine r_callVi cx hP (As := []) (w3_today l Γ ad A n hn s1 v4 hc) mw4_86 ⟨Nat.le_of_ble_eq_true rfl, Nat.le_of_ble_eq_true rfl⟩ (dXg hn (by decide)) rfl rfl rfl (Nat.le_of_ble_eq_true rfl) hl.1 ⟨Nat.zero_le _, Nat.zero_le _⟩ dX4_showCard_62 (fun H locs hP => ?_)
      obtain ⟨s5, hc, hF⟩ := bnd_some hF
      refine r_callVv cx hP (As := [.int v2, .int x2, .int v3, .int v4]) (w7_countVisit l Γ ad A n hn v2 x2 v3 v4 s1 s5 hc) mw4_220 ⟨Nat.le_of_ble_eq_true rfl, Nat.le_of_ble_eq_true rfl⟩ (dXg hn (by decide)) rfl rfl rfl (Nat.le_of_ble_eq_true rfl) hl.1 ⟨Nat.zero_le _, Nat.zero_le _⟩ dX4_showCard_65 (fun H locs hP => ?_)
      refine r_iload_n cx dX4_showCard_68 (lv_at hl 3 rfl) ?_
      exact r_iret cx hP hr hk dX4_showCard_69 hF
  refine r_aload_n cx dX4_showCard_0 (lv_at hl 0 rfl) ?_
  refine r_iload_n cx dX4_showCard_1 (lv_at hl 1 rfl) ?_
  refine r_iload_n cx dX4_showCard_2 (lv_at hl 2 rfl) ?_
  obtain ⟨v6, hc, hF⟩ := bnd_some hF
  refine r_callVi cx hP (As := [.int p1, .int p2]) (w4_reasonOfRefusal l Γ ad A n hn p1 p2 σ v6 hc) mw4_211 ⟨Nat.le_of_ble_eq_true rfl, Nat.le_of_ble_eq_true rfl⟩ (dXg hn (by decide)) rfl rfl rfl (Nat.le_of_ble_eq_true rfl) hl.1 ⟨Nat.zero_le _, Nat.zero_le _⟩ dX4_showCard_3 (fun H locs hP => ?_)
  refine r_istore_n cx [(3, .int v6), (0, .ref (ad (n + 1) 0)), (1, .int p1), (2, .int p2)] dX4_showCard_6 hl (by decide) rfl (fun ls hl => ?_)
  refine r_iload_n cx dX4_showCard_7 (lv_at hl 0 rfl) ?_
  refine r_iconst cx 2 dX4_showCard_8 (by decide) ?_
  refine r_icmp_ne cx 25 dX4_showCard_9 (by decide) hF (fun hF => ?_) (fun hF => ?_)
  · exact b25 p1 p2 v6 σ _ _ _ hP (lv_sub hl [1, 2, 3, 0] rfl) hF
  · refine r_aload_n cx dX4_showCard_12 (lv_at hl 1 rfl) ?_
    refine gf4_49 cx hP hn dX4_showCard_13 ?_
    refine r_dup cx dX4_showCard_16 rfl ?_
    refine gf4_214 cx hP hn dX4_showCard_17 hF (fun v7 hF => ?_)
    refine r_iconst cx 1 dX4_showCard_20 (by decide) ?_
    refine r_iadd cx dX4_showCard_21 hF (fun v8 hF => ?_)
    refine pf4_214 cx hP hn dX4_showCard_22 hF (fun s9 H locs hP hF => ?_)
    exact b25 p1 p2 v6 s9 _ _ _ hP (lv_sub hl [1, 2, 3, 0] rfl) hF
set_option maxHeartbeats 4000000 in
set_option maxRecDepth 100000 in
theorem w9_readVisit (l : Launch) (Γ : Wc) (ad : Nat → Nat → Nat) (A : Nat → Prop)  (σ : Sig) (σ1 : Sig) (hF : f9_readVisit  σ = some σ1) : MV l SX Γ ad A yX9_readVisit cX9_readVisit 3 3 68 [.ref (ad 0 3)] σ σ1 := by
  refine MV.of (by decide) (Nat.le_of_ble_eq_true rfl) ?_
  intro p e s m args below meth c ls cx hr hk hP hl
  have hl : lv_has ls 3 [(0, .ref (ad 0 3))] := hl
  rw [f9_readVisit] at hF
  generalize hH0 : s.heap = H0 at hP ⊢
  generalize ([] : List Loc) = locs0 at hP ⊢
  clear hH0
  have b61 : ∀ (t1 : Int32) (σ : Sig) (H : Heap) (locs : List Loc) (ls : Array Slot), PS SX Γ ad A s σ H locs → lv_has ls 3 [] → f9_readVisit_b61 t1 σ = some σ1 → W p l e (rmz 3 68) s m args below meth c H locs 0 0 (QV SX Γ ad A below args s σ1) (F0 m 61 ls [.int t1, .ref (ad 0 3)]) := by
    intro t1 σ H locs ls hP hl hF
    rw [f9_readVisit_b61] at hF
    obtain ⟨v1, s2, hc, hF⟩ := bns_some hF
    refine r_callVi cx hP (As := [.int t1]) (w9_executes l Γ ad A t1 σ v1 s2 hc) mw9_154 ⟨Nat.le_of_ble_eq_true rfl, Nat.le_of_ble_eq_true rfl⟩ (dXr (by decide)) rfl rfl rfl (Nat.le_of_ble_eq_true rfl) hl.1 ⟨Nat.zero_le _, Nat.zero_le _⟩ dX9_readVisit_61 (fun H locs hP => ?_)
    refine r_pop cx dX9_readVisit_64 rfl ?_
    exact r_vret cx hP hr hk dX9_readVisit_65 hF
  refine r_aload_n cx dX9_readVisit_0 (lv_at hl 0 rfl) ?_
  refine r_iconst cx 0 dX9_readVisit_1 (by decide) ?_
  refine r_aload_n cx dX9_readVisit_2 (lv_at hl 0 rfl) ?_
  refine gf9_12 cx hP dX9_readVisit_3 ?_
  refine gf9_183 cx hP (by decide : 10 < 11) dX9_readVisit_6 ?_
  refine gf9_187 cx hP (by decide : 10 < 11) dX9_readVisit_9 hF (fun v3 hF => ?_)
  refine r_iconst cx 1 dX9_readVisit_12 (by decide) ?_
  refine r_isub cx dX9_readVisit_13 hF (fun v4 hF => ?_)
  obtain ⟨v5, s6, hc, hF⟩ := bns_some hF
  refine r_callVi cx hP (As := [.int 0, .int v4]) (w9_nextNumber l Γ ad A 0 v4 σ v5 s6 hc) mw9_141 ⟨Nat.le_of_ble_eq_true rfl, Nat.le_of_ble_eq_true rfl⟩ (dXr (by decide)) rfl rfl rfl (Nat.le_of_ble_eq_true rfl) hl.1 ⟨Nat.zero_le _, Nat.zero_le _⟩ dX9_readVisit_14 (fun H locs hP => ?_)
  refine r_istore_n cx [(1, .int v5), (0, .ref (ad 0 3))] dX9_readVisit_17 hl (by decide) rfl (fun ls hl => ?_)
  refine r_aload_n cx dX9_readVisit_18 (lv_at hl 1 rfl) ?_
  refine r_iconst cx 0 dX9_readVisit_19 (by decide) ?_
  refine r_aload_n cx dX9_readVisit_20 (lv_at hl 1 rfl) ?_
  refine gf9_12 cx hP dX9_readVisit_21 ?_
  refine gf9_147 cx hP (by decide : 10 < 11) dX9_readVisit_24 ?_
  refine gf9_192 cx hP (by decide : 10 < 11) dX9_readVisit_27 hF (fun v7 hF => ?_)
  refine r_iconst cx 1 dX9_readVisit_30 (by decide) ?_
  refine r_isub cx dX9_readVisit_31 hF (fun v8 hF => ?_)
  obtain ⟨v9, s10, hc, hF⟩ := bns_some hF
  refine r_callVi cx hP (As := [.int 0, .int v8]) (w9_nextNumber l Γ ad A 0 v8 s6 v9 s10 hc) mw9_141 ⟨Nat.le_of_ble_eq_true rfl, Nat.le_of_ble_eq_true rfl⟩ (dXr (by decide)) rfl rfl rfl (Nat.le_of_ble_eq_true rfl) hl.1 ⟨Nat.zero_le _, Nat.zero_le _⟩ dX9_readVisit_32 (fun H locs hP => ?_)
  refine r_istore_n cx [(2, .int v9), (1, .int v5), (0, .ref (ad 0 3))] dX9_readVisit_35 hl (by decide) rfl (fun ls hl => ?_)
  refine r_aload_n cx dX9_readVisit_36 (lv_at hl 2 rfl) ?_
  obtain ⟨v11, s12, hc, hF⟩ := bns_some hF
  refine r_callVi cx hP (As := []) (w9_isComplete l Γ ad A s10 v11 s12 hc) mw9_144 ⟨Nat.le_of_ble_eq_true rfl, Nat.le_of_ble_eq_true rfl⟩ (dXr (by decide)) rfl rfl rfl (Nat.le_of_ble_eq_true rfl) hl.1 ⟨Nat.zero_le _, Nat.zero_le _⟩ dX9_readVisit_37 (fun H locs hP => ?_)
  refine r_if_eq cx 65 dX9_readVisit_40 (by decide) hF (fun hF => ?_) (fun hF => ?_)
  · exact r_vret cx hP hr hk dX9_readVisit_65 hF
  · refine r_aload_n cx dX9_readVisit_43 (lv_at hl 2 rfl) ?_
    refine r_aload_n cx dX9_readVisit_44 (lv_at hl 2 rfl) ?_
    refine gf9_12 cx hP dX9_readVisit_45 ?_
    refine r_iload_n cx dX9_readVisit_48 (lv_at hl 1 rfl) ?_
    refine r_iload_n cx dX9_readVisit_49 (lv_at hl 0 rfl) ?_
    obtain ⟨v13, s14, hc, hF⟩ := bns_some hF
    refine r_callVi cx hP (As := [.int v5, .int v9]) (w4_showCard l Γ ad A 10 (by decide : 10 < 11) v5 v9 s12 v13 s14 hc) mw9_193 ⟨Nat.le_of_ble_eq_true rfl, Nat.le_of_ble_eq_true rfl⟩ (dXg (by decide : 10 < 11) (by decide)) rfl rfl rfl (Nat.le_of_ble_eq_true rfl) hl.1 ⟨Nat.zero_le _, Nat.zero_le _⟩ dX9_readVisit_50 (fun H locs hP => ?_)
    refine r_if_ne cx 60 dX9_readVisit_53 (by decide) hF (fun hF => ?_) (fun hF => ?_)
    · refine r_iconst cx 0 dX9_readVisit_60 (by decide) ?_
      exact b61 0 s14 _ _ _ hP (lv_sub hl [] rfl) hF
    · refine r_iconst cx 1 dX9_readVisit_56 (by decide) ?_
      refine r_goto cx 61 dX9_readVisit_57 (by decide) ?_
      exact b61 1 s14 _ _ _ hP (lv_sub hl [] rfl) hF
set_option maxHeartbeats 4000000 in
set_option maxRecDepth 100000 in
theorem w0_has (l : Launch) (Γ : Wc) (ad : Nat → Nat → Nat) (A : Nat → Prop) (n : Nat) (hn : n < 11) (p1 : Int32) (σ : Sig) (r : Int32) (hF : f0_has n p1 σ = some r) : MI l SX Γ ad A yX0_has cX0_has 2 (some .boolean) 0 0 [.ref (ad (n + 1) 3), .int p1] σ r σ := by
  refine MI.of (by decide) (Nat.le_of_ble_eq_true rfl) ?_
  intro p e s m args below meth c ls cx hr hk hP hl
  have hl : lv_has ls 2 [(0, .ref (ad (n + 1) 3)), (1, .int p1)] := hl
  rw [f0_has] at hF
  refine r_iload_n cx dX0_has_0 (lv_at hl 1 rfl) ?_
  refine r_if_lt cx 16 dX0_has_1 (by decide) hF (fun hF => ?_) (fun hF => ?_)
  · refine r_iconst cx 0 dX0_has_16 (by decide) ?_
    exact r_zret cx hP hr hk (by decide) dX0_has_17 (prF hF)
  · refine r_iload_n cx dX0_has_4 (lv_at hl 1 rfl) ?_
    refine r_aload_n cx dX0_has_5 (lv_at hl 0 rfl) ?_
    refine gf0_33 cx hP hn dX0_has_6 hF (fun v1 hF => ?_)
    refine r_icmp_ge cx 16 dX0_has_9 (by decide) hF (fun hF => ?_) (fun hF => ?_)
    · refine r_iconst cx 0 dX0_has_16 (by decide) ?_
      exact r_zret cx hP hr hk (by decide) dX0_has_17 (prF hF)
    · refine r_iconst cx 1 dX0_has_12 (by decide) ?_
      refine r_goto cx 17 dX0_has_13 (by decide) ?_
      exact r_zret cx hP hr hk (by decide) dX0_has_17 (prF hF)
set_option maxHeartbeats 4000000 in
set_option maxRecDepth 100000 in
theorem w4_canPluck (l : Launch) (Γ : Wc) (ad : Nat → Nat → Nat) (A : Nat → Prop) (n : Nat) (hn : n < 11) (p1 : Int32) (p2 : Int32) (σ : Sig) (r : Int32) (hF : f4_canPluck n p1 p2 σ = some r) : MI l SX Γ ad A yX4_canPluck cX4_canPluck 5 (some .boolean) 1 21 [.ref (ad (n + 1) 0), .int p1, .int p2] σ r σ := by
  refine MI.of (by decide) (Nat.le_of_ble_eq_true rfl) ?_
  intro p e s m args below meth c ls cx hr hk hP hl
  have hl : lv_has ls 5 [(0, .ref (ad (n + 1) 0)), (1, .int p1), (2, .int p2)] := hl
  rw [f4_canPluck] at hF
  refine r_aload_n cx dX4_canPluck_0 (lv_at hl 0 rfl) ?_
  refine gf4_42 cx hP hn dX4_canPluck_1 ?_
  refine gf4_186 cx hP hn dX4_canPluck_4 ?_
  refine r_iload_n cx dX4_canPluck_7 (lv_at hl 1 rfl) ?_
  refine r_iald cx hP (dXg hn (by decide)) rfl dX4_canPluck_8 hF (fun v1 hF => ?_)
  refine r_istore_n cx [(3, .int v1), (0, .ref (ad (n + 1) 0)), (1, .int p1), (2, .int p2)] dX4_canPluck_9 hl (by decide) rfl (fun ls hl => ?_)
  refine r_aload_n cx dX4_canPluck_10 (lv_at hl 1 rfl) ?_
  refine gf4_35 cx hP hn dX4_canPluck_11 ?_
  refine gf4_223 cx hP hn dX4_canPluck_14 ?_
  refine r_iload_n cx dX4_canPluck_17 (lv_at hl 0 rfl) ?_
  refine r_iald cx hP (dXg hn (by decide)) rfl dX4_canPluck_18 hF (fun v2 hF => ?_)
  refine r_istore cx [(4, .int v2), (3, .int v1), (0, .ref (ad (n + 1) 0)), (1, .int p1), (2, .int p2)] dX4_canPluck_19 hl (by decide) rfl (fun ls hl => ?_)
  refine r_aload_n cx dX4_canPluck_21 (lv_at hl 2 rfl) ?_
  refine gf4_42 cx hP hn dX4_canPluck_22 ?_
  refine gf4_152 cx hP hn dX4_canPluck_25 ?_
  refine r_iload_n cx dX4_canPluck_28 (lv_at hl 3 rfl) ?_
  refine r_zald cx hP (dXg hn (by decide)) rfl dX4_canPluck_29 hF (fun v3 hF => ?_)
  refine r_if_ne cx 64 dX4_canPluck_30 (by decide) hF (fun hF => ?_) (fun hF => ?_)
  · refine r_iconst cx 0 dX4_canPluck_64 (by decide) ?_
    exact r_zret cx hP hr hk (by decide) dX4_canPluck_65 (prF hF)
  · refine r_aload_n cx dX4_canPluck_33 (lv_at hl 2 rfl) ?_
    refine gf4_35 cx hP hn dX4_canPluck_34 ?_
    refine gf4_183 cx hP hn dX4_canPluck_37 ?_
    refine r_iload_n cx dX4_canPluck_40 (lv_at hl 1 rfl) ?_
    refine r_iald cx hP (dXg hn (by decide)) rfl dX4_canPluck_41 hF (fun v4 hF => ?_)
    refine r_aload_n cx dX4_canPluck_42 (lv_at hl 2 rfl) ?_
    refine gf4_12 cx hP hn dX4_canPluck_43 ?_
    refine gf4_90 cx hP hn dX4_canPluck_46 hF (fun v5 hF => ?_)
    refine r_icmp_ne cx 64 dX4_canPluck_49 (by decide) hF (fun hF => ?_) (fun hF => ?_)
    · refine r_iconst cx 0 dX4_canPluck_64 (by decide) ?_
      exact r_zret cx hP hr hk (by decide) dX4_canPluck_65 (prF hF)
    · refine r_aload_n cx dX4_canPluck_52 (lv_at hl 2 rfl) ?_
      refine gf4_28 cx hP hn dX4_canPluck_53 ?_
      refine r_iload cx dX4_canPluck_56 (lv_at hl 0 rfl) ?_
      obtain ⟨v6, hc, hF⟩ := bnd_some hF
      refine r_callVi cx hP (As := [.int v2]) (w0_has l Γ ad A n hn v2 σ v6 hc) mw4_226 ⟨Nat.le_of_ble_eq_true rfl, Nat.le_of_ble_eq_true rfl⟩ (dXg hn (by decide)) rfl rfl rfl (Nat.le_of_ble_eq_true rfl) hl.1 ⟨Nat.zero_le _, Nat.zero_le _⟩ dX4_canPluck_58 (fun H locs hP => ?_)
      refine r_if_ne cx 66 dX4_canPluck_61 (by decide) hF (fun hF => ?_) (fun hF => ?_)
      · refine r_aload_n cx dX4_canPluck_66 (lv_at hl 2 rfl) ?_
        refine gf4_28 cx hP hn dX4_canPluck_67 ?_
        refine gf4_227 cx hP hn dX4_canPluck_70 ?_
        refine r_iload cx dX4_canPluck_73 (lv_at hl 0 rfl) ?_
        refine r_iald cx hP (dXg hn (by decide)) rfl dX4_canPluck_75 hF (fun v7 hF => ?_)
        refine r_iload_n cx dX4_canPluck_76 (lv_at hl 4 rfl) ?_
        refine r_icmp_lt cx 84 dX4_canPluck_77 (by decide) hF (fun hF => ?_) (fun hF => ?_)
        · refine r_iconst cx 0 dX4_canPluck_84 (by decide) ?_
          exact r_zret cx hP hr hk (by decide) dX4_canPluck_85 (prF hF)
        · refine r_iconst cx 1 dX4_canPluck_80 (by decide) ?_
          refine r_goto cx 85 dX4_canPluck_81 (by decide) ?_
          exact r_zret cx hP hr hk (by decide) dX4_canPluck_85 (prF hF)
      · refine r_iconst cx 0 dX4_canPluck_64 (by decide) ?_
        exact r_zret cx hP hr hk (by decide) dX4_canPluck_65 (prF hF)
set_option maxHeartbeats 4000000 in
set_option maxRecDepth 100000 in
theorem w0_hasSeasonOn (l : Launch) (Γ : Wc) (ad : Nat → Nat → Nat) (A : Nat → Prop) (n : Nat) (hn : n < 11) (p1 : Int32) (p2 : Int32) (σ : Sig) (r : Int32) (hF : f0_hasSeasonOn n p1 p2 σ = some r) : MI l SX Γ ad A yX0_hasSeasonOn cX0_hasSeasonOn 3 (some .boolean) 0 0 [.ref (ad (n + 1) 3), .int p1, .int p2] σ r σ := by
  refine MI.of (by decide) (Nat.le_of_ble_eq_true rfl) ?_
  intro p e s m args below meth c ls cx hr hk hP hl
  have hl : lv_has ls 3 [(0, .ref (ad (n + 1) 3)), (1, .int p1), (2, .int p2)] := hl
  rw [f0_hasSeasonOn] at hF
  refine r_iload_n cx dX0_hasSeasonOn_0 (lv_at hl 2 rfl) ?_
  refine r_aload_n cx dX0_hasSeasonOn_1 (lv_at hl 0 rfl) ?_
  refine gf0_18 cx hP hn dX0_hasSeasonOn_2 ?_
  refine r_iload_n cx dX0_hasSeasonOn_5 (lv_at hl 1 rfl) ?_
  refine r_iald cx hP (dXg hn (by decide)) rfl dX0_hasSeasonOn_6 hF (fun v1 hF => ?_)
  refine r_icmp_lt cx 24 dX0_hasSeasonOn_7 (by decide) hF (fun hF => ?_) (fun hF => ?_)
  · refine r_iconst cx 0 dX0_hasSeasonOn_24 (by decide) ?_
    exact r_zret cx hP hr hk (by decide) dX0_hasSeasonOn_25 (prF hF)
  · refine r_iload_n cx dX0_hasSeasonOn_10 (lv_at hl 2 rfl) ?_
    refine r_aload_n cx dX0_hasSeasonOn_11 (lv_at hl 0 rfl) ?_
    refine gf0_21 cx hP hn dX0_hasSeasonOn_12 ?_
    refine r_iload_n cx dX0_hasSeasonOn_15 (lv_at hl 1 rfl) ?_
    refine r_iald cx hP (dXg hn (by decide)) rfl dX0_hasSeasonOn_16 hF (fun v2 hF => ?_)
    refine r_icmp_gt cx 24 dX0_hasSeasonOn_17 (by decide) hF (fun hF => ?_) (fun hF => ?_)
    · refine r_iconst cx 0 dX0_hasSeasonOn_24 (by decide) ?_
      exact r_zret cx hP hr hk (by decide) dX0_hasSeasonOn_25 (prF hF)
    · refine r_iconst cx 1 dX0_hasSeasonOn_20 (by decide) ?_
      refine r_goto cx 25 dX0_hasSeasonOn_21 (by decide) ?_
      exact r_zret cx hP hr hk (by decide) dX0_hasSeasonOn_25 (prF hF)
set_option maxHeartbeats 4000000 in
set_option maxRecDepth 100000 in
theorem w4_fineToday (l : Launch) (Γ : Wc) (ad : Nat → Nat → Nat) (A : Nat → Prop) (n : Nat) (hn : n < 11) (p1 : Int32) (p2 : Int32) (σ : Sig) (r : Int32) (hF : f4_fineToday n p1 p2 σ = some r) : MI l SX Γ ad A yX4_fineToday cX4_fineToday 4 (some .int) 1 22 [.ref (ad (n + 1) 0), .int p1, .int p2] σ r σ := by
  refine MI.of (by decide) (Nat.le_of_ble_eq_true rfl) ?_
  intro p e s m args below meth c ls cx hr hk hP hl
  have hl : lv_has ls 4 [(0, .ref (ad (n + 1) 0)), (1, .int p1), (2, .int p2)] := hl
  rw [f4_fineToday] at hF
  generalize hH0 : s.heap = H0 at hP ⊢
  generalize ([] : List Loc) = locs0 at hP ⊢
  clear hH0
  have b37 : ∀ (x2 : Int32) (t0 : Int32) (H : Heap) (locs : List Loc) (ls : Array Slot), PS SX Γ ad A s σ H locs → lv_has ls 4 [(2, .int x2)] → f4_fineToday_b37 n x2 t0 σ = some r → W p l e (rmz 1 22) s m args below meth c H locs 0 0 (QI SX Γ ad A below args s r σ) (F0 m 37 ls [.int t0]) := by
    intro x2 t0 H locs ls hP hl hF
    rw [f4_fineToday_b37] at hF
    refine r_istore_n cx [(3, .int t0), (2, .int x2)] dX4_fineToday_37 hl (by decide) rfl (fun ls hl => ?_)
    refine r_iload_n cx dX4_fineToday_38 (lv_at hl 0 rfl) ?_
    refine r_iload_n cx dX4_fineToday_39 (lv_at hl 1 rfl) ?_
    refine r_imul cx dX4_fineToday_40 hF (fun v1 hF => ?_)
    exact r_iret cx hP hr hk dX4_fineToday_41 (prF hF)
  refine r_aload_n cx dX4_fineToday_0 (lv_at hl 0 rfl) ?_
  refine gf4_28 cx hP hn dX4_fineToday_1 ?_
  refine r_iload_n cx dX4_fineToday_4 (lv_at hl 1 rfl) ?_
  refine r_aload_n cx dX4_fineToday_5 (lv_at hl 0 rfl) ?_
  refine gf4_12 cx hP hn dX4_fineToday_6 ?_
  obtain ⟨v2, hc, hF⟩ := bnd_some hF
  refine r_callVi cx hP (As := []) (w3_today l Γ ad A n hn σ v2 hc) mw4_86 ⟨Nat.le_of_ble_eq_true rfl, Nat.le_of_ble_eq_true rfl⟩ (dXg hn (by decide)) rfl rfl rfl (Nat.le_of_ble_eq_true rfl) hl.1 ⟨Nat.zero_le _, Nat.zero_le _⟩ dX4_fineToday_9 (fun H locs hP => ?_)
  obtain ⟨v3, hc, hF⟩ := bnd_some hF
  refine r_callVi cx hP (As := [.int p1, .int v2]) (w0_hasSeasonOn l Γ ad A n hn p1 v2 σ v3 hc) mw4_239 ⟨Nat.le_of_ble_eq_true rfl, Nat.le_of_ble_eq_true rfl⟩ (dXg hn (by decide)) rfl rfl rfl (Nat.le_of_ble_eq_true rfl) hl.1 ⟨Nat.zero_le _, Nat.zero_le _⟩ dX4_fineToday_12 (fun H locs hP => ?_)
  refine r_if_eq cx 30 dX4_fineToday_15 (by decide) hF (fun hF => ?_) (fun hF => ?_)
  · refine r_aload_n cx dX4_fineToday_30 (lv_at hl 0 rfl) ?_
    refine gf4_21 cx hP hn dX4_fineToday_31 ?_
    refine gf4_242 cx hP hn dX4_fineToday_34 hF (fun v4 hF => ?_)
    exact b37 p2 v4 _ _ _ hP (lv_sub hl [2] rfl) hF
  · refine r_iconst cx 2 dX4_fineToday_18 (by decide) ?_
    refine r_aload_n cx dX4_fineToday_19 (lv_at hl 0 rfl) ?_
    refine gf4_21 cx hP hn dX4_fineToday_20 ?_
    refine gf4_242 cx hP hn dX4_fineToday_23 hF (fun v5 hF => ?_)
    refine r_imul cx dX4_fineToday_26 hF (fun v6 hF => ?_)
    refine r_goto cx 37 dX4_fineToday_27 (by decide) ?_
    exact b37 p2 v6 _ _ _ hP (lv_sub hl [2] rfl) hF
set_option maxHeartbeats 4000000 in
set_option maxRecDepth 100000 in
theorem w4_pluckBlooms (l : Launch) (Γ : Wc) (ad : Nat → Nat → Nat) (A : Nat → Prop) (n : Nat) (hn : n < 11) (p1 : Int32) (p2 : Int32) (σ : Sig) (r : Int32) (σ1 : Sig) (hF : f4_pluckBlooms n p1 p2 σ = some (r, σ1)) : MI l SX Γ ad A yX4_pluckBlooms cX4_pluckBlooms 6 (some .int) 2 45 [.ref (ad (n + 1) 0), .int p1, .int p2] σ r σ1 := by
  refine MI.of (by decide) (Nat.le_of_ble_eq_true rfl) ?_
  intro p e s m args below meth c ls cx hr hk hP hl
  have hl : lv_has ls 6 [(0, .ref (ad (n + 1) 0)), (1, .int p1), (2, .int p2)] := hl
  rw [f4_pluckBlooms] at hF
  refine r_aload_n cx dX4_pluckBlooms_0 (lv_at hl 0 rfl) ?_
  refine gf4_42 cx hP hn dX4_pluckBlooms_1 ?_
  refine gf4_186 cx hP hn dX4_pluckBlooms_4 ?_
  refine r_iload_n cx dX4_pluckBlooms_7 (lv_at hl 1 rfl) ?_
  refine r_iald cx hP (dXg hn (by decide)) rfl dX4_pluckBlooms_8 hF (fun v1 hF => ?_)
  refine r_istore_n cx [(3, .int v1), (0, .ref (ad (n + 1) 0)), (1, .int p1), (2, .int p2)] dX4_pluckBlooms_9 hl (by decide) rfl (fun ls hl => ?_)
  refine r_aload_n cx dX4_pluckBlooms_10 (lv_at hl 1 rfl) ?_
  refine gf4_35 cx hP hn dX4_pluckBlooms_11 ?_
  refine gf4_223 cx hP hn dX4_pluckBlooms_14 ?_
  refine r_iload_n cx dX4_pluckBlooms_17 (lv_at hl 0 rfl) ?_
  refine r_iald cx hP (dXg hn (by decide)) rfl dX4_pluckBlooms_18 hF (fun v2 hF => ?_)
  refine r_istore cx [(4, .int v2), (3, .int v1), (0, .ref (ad (n + 1) 0)), (1, .int p1), (2, .int p2)] dX4_pluckBlooms_19 hl (by decide) rfl (fun ls hl => ?_)
  refine r_aload_n cx dX4_pluckBlooms_21 (lv_at hl 2 rfl) ?_
  refine r_iload cx dX4_pluckBlooms_22 (lv_at hl 0 rfl) ?_
  refine r_iload_n cx dX4_pluckBlooms_24 (lv_at hl 4 rfl) ?_
  obtain ⟨v3, hc, hF⟩ := bnd_some hF
  refine r_callVi cx hP (As := [.int v2, .int p2]) (w4_fineToday l Γ ad A n hn v2 p2 σ v3 hc) mw4_230 ⟨Nat.le_of_ble_eq_true rfl, Nat.le_of_ble_eq_true rfl⟩ (dXg hn (by decide)) rfl rfl rfl (Nat.le_of_ble_eq_true rfl) hl.1 ⟨Nat.zero_le _, Nat.zero_le _⟩ dX4_pluckBlooms_25 (fun H locs hP => ?_)
  refine r_istore cx [(5, .int v3), (4, .int v2), (3, .int v1), (0, .ref (ad (n + 1) 0)), (1, .int p1), (2, .int p2)] dX4_pluckBlooms_28 hl (by decide) rfl (fun ls hl => ?_)
  refine r_aload_n cx dX4_pluckBlooms_30 (lv_at hl 3 rfl) ?_
  refine gf4_28 cx hP hn dX4_pluckBlooms_31 ?_
  refine gf4_227 cx hP hn dX4_pluckBlooms_34 ?_
  refine r_iload cx dX4_pluckBlooms_37 (lv_at hl 1 rfl) ?_
  refine r_dup2 cx dX4_pluckBlooms_39 rfl rfl ?_
  refine r_iald cx hP (dXg hn (by decide)) rfl dX4_pluckBlooms_40 hF (fun v4 hF => ?_)
  refine r_iload_n cx dX4_pluckBlooms_41 (lv_at hl 5 rfl) ?_
  refine r_isub cx dX4_pluckBlooms_42 hF (fun v5 hF => ?_)
  refine r_iast cx hP (dXg hn (by decide)) (fun _ => rfl) dX4_pluckBlooms_43 hF (fun s6 H locs hP hF => ?_)
  refine r_aload_n cx dX4_pluckBlooms_44 (lv_at hl 3 rfl) ?_
  refine gf4_35 cx hP hn dX4_pluckBlooms_45 ?_
  refine gf4_164 cx hP hn dX4_pluckBlooms_48 ?_
  refine r_iload_n cx dX4_pluckBlooms_51 (lv_at hl 2 rfl) ?_
  refine r_dup2 cx dX4_pluckBlooms_52 rfl rfl ?_
  refine r_iald cx hP (dXg hn (by decide)) rfl dX4_pluckBlooms_53 hF (fun v7 hF => ?_)
  refine r_iload cx dX4_pluckBlooms_54 (lv_at hl 0 rfl) ?_
  refine r_iadd cx dX4_pluckBlooms_56 hF (fun v8 hF => ?_)
  refine r_iast cx hP (dXg hn (by decide)) (fun _ => rfl) dX4_pluckBlooms_57 hF (fun s9 H locs hP hF => ?_)
  refine r_aload_n cx dX4_pluckBlooms_58 (lv_at hl 3 rfl) ?_
  refine gf4_49 cx hP hn dX4_pluckBlooms_59 ?_
  refine r_dup cx dX4_pluckBlooms_62 rfl ?_
  refine gf4_233 cx hP hn dX4_pluckBlooms_63 hF (fun v10 hF => ?_)
  refine r_iload cx dX4_pluckBlooms_66 (lv_at hl 0 rfl) ?_
  refine r_iadd cx dX4_pluckBlooms_68 hF (fun v11 hF => ?_)
  refine pf4_233 cx hP hn dX4_pluckBlooms_69 hF (fun s12 H locs hP hF => ?_)
  refine r_aload_n cx dX4_pluckBlooms_72 (lv_at hl 3 rfl) ?_
  refine gf4_49 cx hP hn dX4_pluckBlooms_73 ?_
  refine r_dup cx dX4_pluckBlooms_76 rfl ?_
  refine gf4_236 cx hP hn dX4_pluckBlooms_77 hF (fun v13 hF => ?_)
  refine r_iload_n cx dX4_pluckBlooms_80 (lv_at hl 5 rfl) ?_
  refine r_iadd cx dX4_pluckBlooms_81 hF (fun v14 hF => ?_)
  refine pf4_236 cx hP hn dX4_pluckBlooms_82 hF (fun s15 H locs hP hF => ?_)
  refine r_iload cx dX4_pluckBlooms_85 (lv_at hl 0 rfl) ?_
  exact r_iret cx hP hr hk dX4_pluckBlooms_87 hF
set_option maxHeartbeats 4000000 in
set_option maxRecDepth 100000 in
theorem w9_readPluck (l : Launch) (Γ : Wc) (ad : Nat → Nat → Nat) (A : Nat → Prop)  (σ : Sig) (σ1 : Sig) (hF : f9_readPluck  σ = some σ1) : MV l SX Γ ad A yX9_readPluck cX9_readPluck 3 3 70 [.ref (ad 0 3)] σ σ1 := by
  refine MV.of (by decide) (Nat.le_of_ble_eq_true rfl) ?_
  intro p e s m args below meth c ls cx hr hk hP hl
  have hl : lv_has ls 3 [(0, .ref (ad 0 3))] := hl
  rw [f9_readPluck] at hF
  refine r_aload_n cx dX9_readPluck_0 (lv_at hl 0 rfl) ?_
  refine r_iconst cx 0 dX9_readPluck_1 (by decide) ?_
  refine r_aload_n cx dX9_readPluck_2 (lv_at hl 0 rfl) ?_
  refine gf9_12 cx hP dX9_readPluck_3 ?_
  refine gf9_183 cx hP (by decide : 10 < 11) dX9_readPluck_6 ?_
  refine gf9_187 cx hP (by decide : 10 < 11) dX9_readPluck_9 hF (fun v1 hF => ?_)
  refine r_iconst cx 1 dX9_readPluck_12 (by decide) ?_
  refine r_isub cx dX9_readPluck_13 hF (fun v2 hF => ?_)
  obtain ⟨v3, s4, hc, hF⟩ := bns_some hF
  refine r_callVi cx hP (As := [.int 0, .int v2]) (w9_nextNumber l Γ ad A 0 v2 σ v3 s4 hc) mw9_141 ⟨Nat.le_of_ble_eq_true rfl, Nat.le_of_ble_eq_true rfl⟩ (dXr (by decide)) rfl rfl rfl (Nat.le_of_ble_eq_true rfl) hl.1 ⟨Nat.zero_le _, Nat.zero_le _⟩ dX9_readPluck_14 (fun H locs hP => ?_)
  refine r_istore_n cx [(1, .int v3), (0, .ref (ad 0 3))] dX9_readPluck_17 hl (by decide) rfl (fun ls hl => ?_)
  refine r_aload_n cx dX9_readPluck_18 (lv_at hl 1 rfl) ?_
  refine r_iconst cx 1 dX9_readPluck_19 (by decide) ?_
  refine r_bipush cx 9 dX9_readPluck_20 (by decide) ?_
  obtain ⟨v5, s6, hc, hF⟩ := bns_some hF
  refine r_callVi cx hP (As := [.int 1, .int 9]) (w9_nextNumber l Γ ad A 1 9 s4 v5 s6 hc) mw9_141 ⟨Nat.le_of_ble_eq_true rfl, Nat.le_of_ble_eq_true rfl⟩ (dXr (by decide)) rfl rfl rfl (Nat.le_of_ble_eq_true rfl) hl.1 ⟨Nat.zero_le _, Nat.zero_le _⟩ dX9_readPluck_22 (fun H locs hP => ?_)
  refine r_istore_n cx [(2, .int v5), (1, .int v3), (0, .ref (ad 0 3))] dX9_readPluck_25 hl (by decide) rfl (fun ls hl => ?_)
  refine r_aload_n cx dX9_readPluck_26 (lv_at hl 2 rfl) ?_
  obtain ⟨v7, s8, hc, hF⟩ := bns_some hF
  refine r_callVi cx hP (As := []) (w9_isComplete l Γ ad A s6 v7 s8 hc) mw9_144 ⟨Nat.le_of_ble_eq_true rfl, Nat.le_of_ble_eq_true rfl⟩ (dXr (by decide)) rfl rfl rfl (Nat.le_of_ble_eq_true rfl) hl.1 ⟨Nat.zero_le _, Nat.zero_le _⟩ dX9_readPluck_27 (fun H locs hP => ?_)
  refine r_if_eq cx 59 dX9_readPluck_30 (by decide) hF (fun hF => ?_) (fun hF => ?_)
  · exact r_vret cx hP hr hk dX9_readPluck_59 hF
  · refine r_aload_n cx dX9_readPluck_33 (lv_at hl 2 rfl) ?_
    refine r_aload_n cx dX9_readPluck_34 (lv_at hl 2 rfl) ?_
    refine gf9_12 cx hP dX9_readPluck_35 ?_
    refine r_iload_n cx dX9_readPluck_38 (lv_at hl 1 rfl) ?_
    refine r_iload_n cx dX9_readPluck_39 (lv_at hl 0 rfl) ?_
    obtain ⟨v9, hc, hF⟩ := bnd_some hF
    refine r_callVi cx hP (As := [.int v3, .int v5]) (w4_canPluck l Γ ad A 10 (by decide : 10 < 11) v3 v5 s8 v9 hc) mw9_196 ⟨Nat.le_of_ble_eq_true rfl, Nat.le_of_ble_eq_true rfl⟩ (dXg (by decide : 10 < 11) (by decide)) rfl rfl rfl (Nat.le_of_ble_eq_true rfl) hl.1 ⟨Nat.zero_le _, Nat.zero_le _⟩ dX9_readPluck_40 (fun H locs hP => ?_)
    obtain ⟨v10, s11, hc, hF⟩ := bns_some hF
    refine r_callVi cx hP (As := [.int v9]) (w9_executes l Γ ad A v9 s8 v10 s11 hc) mw9_154 ⟨Nat.le_of_ble_eq_true rfl, Nat.le_of_ble_eq_true rfl⟩ (dXr (by decide)) rfl rfl rfl (Nat.le_of_ble_eq_true rfl) hl.1 ⟨Nat.zero_le _, Nat.zero_le _⟩ dX9_readPluck_43 (fun H locs hP => ?_)
    refine r_if_eq cx 59 dX9_readPluck_46 (by decide) hF (fun hF => ?_) (fun hF => ?_)
    · exact r_vret cx hP hr hk dX9_readPluck_59 hF
    · refine r_aload_n cx dX9_readPluck_49 (lv_at hl 2 rfl) ?_
      refine gf9_12 cx hP dX9_readPluck_50 ?_
      refine r_iload_n cx dX9_readPluck_53 (lv_at hl 1 rfl) ?_
      refine r_iload_n cx dX9_readPluck_54 (lv_at hl 0 rfl) ?_
      obtain ⟨v12, s13, hc, hF⟩ := bns_some hF
      refine r_callVi cx hP (As := [.int v3, .int v5]) (w4_pluckBlooms l Γ ad A 10 (by decide : 10 < 11) v3 v5 s11 v12 s13 hc) mw9_200 ⟨Nat.le_of_ble_eq_true rfl, Nat.le_of_ble_eq_true rfl⟩ (dXg (by decide : 10 < 11) (by decide)) rfl rfl rfl (Nat.le_of_ble_eq_true rfl) hl.1 ⟨Nat.zero_le _, Nat.zero_le _⟩ dX9_readPluck_55 (fun H locs hP => ?_)
      refine r_pop cx dX9_readPluck_58 rfl ?_
      exact r_vret cx hP hr hk dX9_readPluck_59 hF
set_option maxHeartbeats 4000000 in
set_option maxRecDepth 100000 in
theorem w4_payFinesOf (l : Launch) (Γ : Wc) (ad : Nat → Nat → Nat) (A : Nat → Prop) (n : Nat) (hn : n < 11) (p1 : Int32) (p2 : Int32) (σ : Sig) (σ1 : Sig) (hF : f4_payFinesOf n p1 p2 σ = some σ1) : MV l SX Γ ad A yX4_payFinesOf cX4_payFinesOf 3 0 0 [.ref (ad (n + 1) 0), .int p1, .int p2] σ σ1 := by
  refine MV.of (by decide) (Nat.le_of_ble_eq_true rfl) ?_
  intro p e s m args below meth c ls cx hr hk hP hl
  have hl : lv_has ls 3 [(0, .ref (ad (n + 1) 0)), (1, .int p1), (2, .int p2)] := hl
  rw [f4_payFinesOf] at hF
  refine r_aload_n cx dX4_payFinesOf_0 (lv_at hl 0 rfl) ?_
  refine gf4_35 cx hP hn dX4_payFinesOf_1 ?_
  refine gf4_164 cx hP hn dX4_payFinesOf_4 ?_
  refine r_iload_n cx dX4_payFinesOf_7 (lv_at hl 1 rfl) ?_
  refine r_dup2 cx dX4_payFinesOf_8 rfl rfl ?_
  refine r_iald cx hP (dXg hn (by decide)) rfl dX4_payFinesOf_9 hF (fun v1 hF => ?_)
  refine r_iload_n cx dX4_payFinesOf_10 (lv_at hl 2 rfl) ?_
  refine r_isub cx dX4_payFinesOf_11 hF (fun v2 hF => ?_)
  refine r_iast cx hP (dXg hn (by decide)) (fun _ => rfl) dX4_payFinesOf_12 hF (fun s3 H locs hP hF => ?_)
  refine r_aload_n cx dX4_payFinesOf_13 (lv_at hl 0 rfl) ?_
  refine gf4_49 cx hP hn dX4_payFinesOf_14 ?_
  refine r_dup cx dX4_payFinesOf_17 rfl ?_
  refine gf4_180 cx hP hn dX4_payFinesOf_18 hF (fun v4 hF => ?_)
  refine r_iload_n cx dX4_payFinesOf_21 (lv_at hl 2 rfl) ?_
  refine r_iadd cx dX4_payFinesOf_22 hF (fun v5 hF => ?_)
  refine pf4_180 cx hP hn dX4_payFinesOf_23 hF (fun s6 H locs hP hF => ?_)
  refine r_aload_n cx dX4_payFinesOf_26 (lv_at hl 0 rfl) ?_
  refine gf4_49 cx hP hn dX4_payFinesOf_27 ?_
  refine r_dup cx dX4_payFinesOf_30 rfl ?_
  refine gf4_120 cx hP hn dX4_payFinesOf_31 hF (fun v7 hF => ?_)
  refine r_iload_n cx dX4_payFinesOf_34 (lv_at hl 2 rfl) ?_
  refine r_iadd cx dX4_payFinesOf_35 hF (fun v8 hF => ?_)
  refine pf4_120 cx hP hn dX4_payFinesOf_36 hF (fun s9 H locs hP hF => ?_)
  exact r_vret cx hP hr hk dX4_payFinesOf_39 hF
set_option maxHeartbeats 4000000 in
set_option maxRecDepth 100000 in
theorem w9_readPay (l : Launch) (Γ : Wc) (ad : Nat → Nat → Nat) (A : Nat → Prop)  (σ : Sig) (σ1 : Sig) (hF : f9_readPay  σ = some σ1) : MV l SX Γ ad A yX9_readPay cX9_readPay 3 3 67 [.ref (ad 0 3)] σ σ1 := by
  refine MV.of (by decide) (Nat.le_of_ble_eq_true rfl) ?_
  intro p e s m args below meth c ls cx hr hk hP hl
  have hl : lv_has ls 3 [(0, .ref (ad 0 3))] := hl
  rw [f9_readPay] at hF
  generalize hH0 : s.heap = H0 at hP ⊢
  generalize ([] : List Loc) = locs0 at hP ⊢
  clear hH0
  have b56 : ∀ (x1 : Int32) (x2 : Int32) (t1 : Int32) (σ : Sig) (H : Heap) (locs : List Loc) (ls : Array Slot), PS SX Γ ad A s σ H locs → lv_has ls 3 [(0, .ref (ad 0 3)), (1, .int x1), (2, .int x2)] → f9_readPay_b56 x1 x2 t1 σ = some σ1 → W p l e (rmz 3 67) s m args below meth c H locs 0 0 (QV SX Γ ad A below args s σ1) (F0 m 56 ls [.int t1, .ref (ad 0 3)]) := by
    intro x1 x2 t1 σ H locs ls hP hl hF
    rw [f9_readPay_b56] at hF
    obtain ⟨v1, s2, hc, hF⟩ := bns_some hF
    refine r_callVi cx hP (As := [.int t1]) (w9_executes l Γ ad A t1 σ v1 s2 hc) mw9_154 ⟨Nat.le_of_ble_eq_true rfl, Nat.le_of_ble_eq_true rfl⟩ (dXr (by decide)) rfl rfl rfl (Nat.le_of_ble_eq_true rfl) hl.1 ⟨Nat.zero_le _, Nat.zero_le _⟩ dX9_readPay_56 (fun H locs hP => ?_)
    refine r_if_eq cx 71 dX9_readPay_59 (by decide) hF (fun hF => ?_) (fun hF => ?_)
    · exact r_vret cx hP hr hk dX9_readPay_71 hF
    · refine r_aload_n cx dX9_readPay_62 (lv_at hl 0 rfl) ?_
      refine gf9_12 cx hP dX9_readPay_63 ?_
      refine r_iload_n cx dX9_readPay_66 (lv_at hl 1 rfl) ?_
      refine r_iload_n cx dX9_readPay_67 (lv_at hl 2 rfl) ?_
      obtain ⟨s3, hc, hF⟩ := bnd_some hF
      refine r_callVv cx hP (As := [.int x1, .int x2]) (w4_payFinesOf l Γ ad A 10 (by decide : 10 < 11) x1 x2 s2 s3 hc) mw9_214 ⟨Nat.le_of_ble_eq_true rfl, Nat.le_of_ble_eq_true rfl⟩ (dXg (by decide : 10 < 11) (by decide)) rfl rfl rfl (Nat.le_of_ble_eq_true rfl) hl.1 ⟨Nat.zero_le _, Nat.zero_le _⟩ dX9_readPay_68 (fun H locs hP => ?_)
      exact r_vret cx hP hr hk dX9_readPay_71 hF
  refine r_aload_n cx dX9_readPay_0 (lv_at hl 0 rfl) ?_
  refine r_iconst cx 0 dX9_readPay_1 (by decide) ?_
  refine r_aload_n cx dX9_readPay_2 (lv_at hl 0 rfl) ?_
  refine gf9_12 cx hP dX9_readPay_3 ?_
  refine gf9_203 cx hP (by decide : 10 < 11) dX9_readPay_6 ?_
  refine gf9_207 cx hP (by decide : 10 < 11) dX9_readPay_9 hF (fun v4 hF => ?_)
  refine r_iconst cx 1 dX9_readPay_12 (by decide) ?_
  refine r_isub cx dX9_readPay_13 hF (fun v5 hF => ?_)
  obtain ⟨v6, s7, hc, hF⟩ := bns_some hF
  refine r_callVi cx hP (As := [.int 0, .int v5]) (w9_nextNumber l Γ ad A 0 v5 σ v6 s7 hc) mw9_141 ⟨Nat.le_of_ble_eq_true rfl, Nat.le_of_ble_eq_true rfl⟩ (dXr (by decide)) rfl rfl rfl (Nat.le_of_ble_eq_true rfl) hl.1 ⟨Nat.zero_le _, Nat.zero_le _⟩ dX9_readPay_14 (fun H locs hP => ?_)
  refine r_istore_n cx [(1, .int v6), (0, .ref (ad 0 3))] dX9_readPay_17 hl (by decide) rfl (fun ls hl => ?_)
  refine r_aload_n cx dX9_readPay_18 (lv_at hl 1 rfl) ?_
  refine r_iconst cx 1 dX9_readPay_19 (by decide) ?_
  refine r_sipush cx 9999 dX9_readPay_20 (by decide) ?_
  obtain ⟨v8, s9, hc, hF⟩ := bns_some hF
  refine r_callVi cx hP (As := [.int 1, .int 9999]) (w9_nextNumber l Γ ad A 1 9999 s7 v8 s9 hc) mw9_141 ⟨Nat.le_of_ble_eq_true rfl, Nat.le_of_ble_eq_true rfl⟩ (dXr (by decide)) rfl rfl rfl (Nat.le_of_ble_eq_true rfl) hl.1 ⟨Nat.zero_le _, Nat.zero_le _⟩ dX9_readPay_23 (fun H locs hP => ?_)
  refine r_istore_n cx [(2, .int v8), (1, .int v6), (0, .ref (ad 0 3))] dX9_readPay_26 hl (by decide) rfl (fun ls hl => ?_)
  refine r_aload_n cx dX9_readPay_27 (lv_at hl 2 rfl) ?_
  obtain ⟨v10, s11, hc, hF⟩ := bns_some hF
  refine r_callVi cx hP (As := []) (w9_isComplete l Γ ad A s9 v10 s11 hc) mw9_144 ⟨Nat.le_of_ble_eq_true rfl, Nat.le_of_ble_eq_true rfl⟩ (dXr (by decide)) rfl rfl rfl (Nat.le_of_ble_eq_true rfl) hl.1 ⟨Nat.zero_le _, Nat.zero_le _⟩ dX9_readPay_28 (fun H locs hP => ?_)
  refine r_if_eq cx 71 dX9_readPay_31 (by decide) hF (fun hF => ?_) (fun hF => ?_)
  · exact r_vret cx hP hr hk dX9_readPay_71 hF
  · refine r_aload_n cx dX9_readPay_34 (lv_at hl 2 rfl) ?_
    refine r_aload_n cx dX9_readPay_35 (lv_at hl 2 rfl) ?_
    refine gf9_12 cx hP dX9_readPay_36 ?_
    refine gf9_203 cx hP (by decide : 10 < 11) dX9_readPay_39 ?_
    refine gf9_210 cx hP (by decide : 10 < 11) dX9_readPay_42 ?_
    refine r_iload_n cx dX9_readPay_45 (lv_at hl 1 rfl) ?_
    refine r_iald cx hP (dXg (by decide : 10 < 11) (by decide)) rfl dX9_readPay_46 hF (fun v12 hF => ?_)
    refine r_iload_n cx dX9_readPay_47 (lv_at hl 0 rfl) ?_
    refine r_icmp_lt cx 55 dX9_readPay_48 (by decide) hF (fun hF => ?_) (fun hF => ?_)
    · refine r_iconst cx 0 dX9_readPay_55 (by decide) ?_
      exact b56 v6 v8 0 s11 _ _ _ hP (lv_sub hl [2, 1, 0] rfl) hF
    · refine r_iconst cx 1 dX9_readPay_51 (by decide) ?_
      refine r_goto cx 56 dX9_readPay_52 (by decide) ?_
      exact b56 v6 v8 1 s11 _ _ _ hP (lv_sub hl [2, 1, 0] rfl) hF
set_option maxHeartbeats 4000000 in
set_option maxRecDepth 100000 in
theorem w7_hasCard (l : Launch) (Γ : Wc) (ad : Nat → Nat → Nat) (A : Nat → Prop) (n : Nat) (hn : n < 11) (p1 : Int32) (σ : Sig) (r : Int32) (hF : f7_hasCard n p1 σ = some r) : MI l SX Γ ad A yX7_hasCard cX7_hasCard 2 (some .boolean) 0 0 [.ref (ad (n + 1) 4), .int p1] σ r σ := by
  refine MI.of (by decide) (Nat.le_of_ble_eq_true rfl) ?_
  intro p e s m args below meth c ls cx hr hk hP hl
  have hl : lv_has ls 2 [(0, .ref (ad (n + 1) 4)), (1, .int p1)] := hl
  rw [f7_hasCard] at hF
  refine r_aload_n cx dX7_hasCard_0 (lv_at hl 0 rfl) ?_
  refine gf7_27 cx hP hn dX7_hasCard_1 ?_
  refine r_iload_n cx dX7_hasCard_4 (lv_at hl 1 rfl) ?_
  refine r_iald cx hP (dXg hn (by decide)) rfl dX7_hasCard_5 hF (fun v1 hF => ?_)
  refine r_iconst cx (-1) dX7_hasCard_6 (by decide) ?_
  refine r_icmp_eq cx 14 dX7_hasCard_7 (by decide) hF (fun hF => ?_) (fun hF => ?_)
  · refine r_iconst cx 0 dX7_hasCard_14 (by decide) ?_
    exact r_zret cx hP hr hk (by decide) dX7_hasCard_15 (prF hF)
  · refine r_iconst cx 1 dX7_hasCard_10 (by decide) ?_
    refine r_goto cx 15 dX7_hasCard_11 (by decide) ?_
    exact r_zret cx hP hr hk (by decide) dX7_hasCard_15 (prF hF)
set_option maxHeartbeats 4000000 in
set_option maxRecDepth 100000 in
theorem w2_has (l : Launch) (Γ : Wc) (ad : Nat → Nat → Nat) (A : Nat → Prop) (n : Nat) (hn : n < 11) (p1 : Int32) (σ : Sig) (r : Int32) (hF : f2_has n p1 σ = some r) : MI l SX Γ ad A yX2_has cX2_has 2 (some .boolean) 0 0 [.ref (ad (n + 1) 5), .int p1] σ r σ := by
  refine MI.of (by decide) (Nat.le_of_ble_eq_true rfl) ?_
  intro p e s m args below meth c ls cx hr hk hP hl
  have hl : lv_has ls 2 [(0, .ref (ad (n + 1) 5)), (1, .int p1)] := hl
  rw [f2_has] at hF
  refine r_iload_n cx dX2_has_0 (lv_at hl 1 rfl) ?_
  refine r_if_lt cx 16 dX2_has_1 (by decide) hF (fun hF => ?_) (fun hF => ?_)
  · refine r_iconst cx 0 dX2_has_16 (by decide) ?_
    exact r_zret cx hP hr hk (by decide) dX2_has_17 (prF hF)
  · refine r_iload_n cx dX2_has_4 (lv_at hl 1 rfl) ?_
    refine r_aload_n cx dX2_has_5 (lv_at hl 0 rfl) ?_
    refine gf2_19 cx hP hn dX2_has_6 hF (fun v1 hF => ?_)
    refine r_icmp_ge cx 16 dX2_has_9 (by decide) hF (fun hF => ?_) (fun hF => ?_)
    · refine r_iconst cx 0 dX2_has_16 (by decide) ?_
      exact r_zret cx hP hr hk (by decide) dX2_has_17 (prF hF)
    · refine r_iconst cx 1 dX2_has_12 (by decide) ?_
      refine r_goto cx 17 dX2_has_13 (by decide) ?_
      exact r_zret cx hP hr hk (by decide) dX2_has_17 (prF hF)
set_option maxHeartbeats 4000000 in
set_option maxRecDepth 100000 in
theorem w4_blockCardOf (l : Launch) (Γ : Wc) (ad : Nat → Nat → Nat) (A : Nat → Prop) (n : Nat) (hn : n < 11) (p1 : Int32) (σ : Sig) (r : Int32) (σ1 : Sig) (hF : f4_blockCardOf n p1 σ = some (r, σ1)) : MI l SX Γ ad A yX4_blockCardOf cX4_blockCardOf 3 (some .int) 1 21 [.ref (ad (n + 1) 0), .int p1] σ r σ1 := by
  refine MI.of (by decide) (Nat.le_of_ble_eq_true rfl) ?_
  intro p e s m args below meth c ls cx hr hk hP hl
  have hl : lv_has ls 3 [(0, .ref (ad (n + 1) 0)), (1, .int p1)] := hl
  rw [f4_blockCardOf] at hF
  generalize hH0 : s.heap = H0 at hP ⊢
  generalize ([] : List Loc) = locs0 at hP ⊢
  clear hH0
  have b31 : ∀ (x1 : Int32) (x2 : Int32) (σ : Sig) (H : Heap) (locs : List Loc) (ls : Array Slot), PS SX Γ ad A s σ H locs → lv_has ls 3 [(0, .ref (ad (n + 1) 0)), (1, .int x1), (2, .int x2)] → f4_blockCardOf_b31 n x1 x2 σ = some (r, σ1) → W p l e (rmz 1 21) s m args below meth c H locs 0 0 (QI SX Γ ad A below args s r σ1) (F0 m 31 ls []) := by
    intro x1 x2 σ H locs ls hP hl hF
    rw [f4_blockCardOf_b31] at hF
    refine r_aload_n cx dX4_blockCardOf_31 (lv_at hl 0 rfl) ?_
    refine gf4_35 cx hP hn dX4_blockCardOf_32 ?_
    refine gf4_113 cx hP hn dX4_blockCardOf_35 ?_
    refine r_iload_n cx dX4_blockCardOf_38 (lv_at hl 1 rfl) ?_
    refine r_iconst cx (-1) dX4_blockCardOf_39 (by decide) ?_
    refine r_iast cx hP (dXg hn (by decide)) (fun _ => rfl) dX4_blockCardOf_40 hF (fun s1 H locs hP hF => ?_)
    refine r_iload_n cx dX4_blockCardOf_41 (lv_at hl 2 rfl) ?_
    exact r_iret cx hP hr hk dX4_blockCardOf_42 hF
  refine r_aload_n cx dX4_blockCardOf_0 (lv_at hl 0 rfl) ?_
  refine gf4_35 cx hP hn dX4_blockCardOf_1 ?_
  refine gf4_113 cx hP hn dX4_blockCardOf_4 ?_
  refine r_iload_n cx dX4_blockCardOf_7 (lv_at hl 1 rfl) ?_
  refine r_iald cx hP (dXg hn (by decide)) rfl dX4_blockCardOf_8 hF (fun v2 hF => ?_)
  refine r_istore_n cx [(2, .int v2), (0, .ref (ad (n + 1) 0)), (1, .int p1)] dX4_blockCardOf_9 hl (by decide) rfl (fun ls hl => ?_)
  refine r_aload_n cx dX4_blockCardOf_10 (lv_at hl 1 rfl) ?_
  refine gf4_42 cx hP hn dX4_blockCardOf_11 ?_
  refine r_iload_n cx dX4_blockCardOf_14 (lv_at hl 0 rfl) ?_
  obtain ⟨v3, hc, hF⟩ := bnd_some hF
  refine r_callVi cx hP (As := [.int v2]) (w2_has l Γ ad A n hn v2 σ v3 hc) mw4_148 ⟨Nat.le_of_ble_eq_true rfl, Nat.le_of_ble_eq_true rfl⟩ (dXg hn (by decide)) rfl rfl rfl (Nat.le_of_ble_eq_true rfl) hl.1 ⟨Nat.zero_le _, Nat.zero_le _⟩ dX4_blockCardOf_15 (fun H locs hP => ?_)
  refine r_if_eq cx 31 dX4_blockCardOf_18 (by decide) hF (fun hF => ?_) (fun hF => ?_)
  · exact b31 p1 v2 σ _ _ _ hP (lv_sub hl [1, 2, 0] rfl) hF
  · refine r_aload_n cx dX4_blockCardOf_21 (lv_at hl 1 rfl) ?_
    refine gf4_42 cx hP hn dX4_blockCardOf_22 ?_
    refine gf4_152 cx hP hn dX4_blockCardOf_25 ?_
    refine r_iload_n cx dX4_blockCardOf_28 (lv_at hl 0 rfl) ?_
    refine r_iconst cx 1 dX4_blockCardOf_29 (by decide) ?_
    refine r_zast cx hP (dXg hn (by decide)) (fun _ => rfl) dX4_blockCardOf_30 hF (fun s4 H locs hP hF => ?_)
    exact b31 p1 v2 s4 _ _ _ hP (lv_sub hl [1, 2, 0] rfl) hF
set_option maxHeartbeats 4000000 in
set_option maxRecDepth 100000 in
theorem w9_readLost (l : Launch) (Γ : Wc) (ad : Nat → Nat → Nat) (A : Nat → Prop)  (σ : Sig) (σ1 : Sig) (hF : f9_readLost  σ = some σ1) : MV l SX Γ ad A yX9_readLost cX9_readLost 2 3 67 [.ref (ad 0 3)] σ σ1 := by
  refine MV.of (by decide) (Nat.le_of_ble_eq_true rfl) ?_
  intro p e s m args below meth c ls cx hr hk hP hl
  have hl : lv_has ls 2 [(0, .ref (ad 0 3))] := hl
  rw [f9_readLost] at hF
  refine r_aload_n cx dX9_readLost_0 (lv_at hl 0 rfl) ?_
  refine r_iconst cx 0 dX9_readLost_1 (by decide) ?_
  refine r_aload_n cx dX9_readLost_2 (lv_at hl 0 rfl) ?_
  refine gf9_12 cx hP dX9_readLost_3 ?_
  refine gf9_203 cx hP (by decide : 10 < 11) dX9_readLost_6 ?_
  refine gf9_207 cx hP (by decide : 10 < 11) dX9_readLost_9 hF (fun v1 hF => ?_)
  refine r_iconst cx 1 dX9_readLost_12 (by decide) ?_
  refine r_isub cx dX9_readLost_13 hF (fun v2 hF => ?_)
  obtain ⟨v3, s4, hc, hF⟩ := bns_some hF
  refine r_callVi cx hP (As := [.int 0, .int v2]) (w9_nextNumber l Γ ad A 0 v2 σ v3 s4 hc) mw9_141 ⟨Nat.le_of_ble_eq_true rfl, Nat.le_of_ble_eq_true rfl⟩ (dXr (by decide)) rfl rfl rfl (Nat.le_of_ble_eq_true rfl) hl.1 ⟨Nat.zero_le _, Nat.zero_le _⟩ dX9_readLost_14 (fun H locs hP => ?_)
  refine r_istore_n cx [(1, .int v3), (0, .ref (ad 0 3))] dX9_readLost_17 hl (by decide) rfl (fun ls hl => ?_)
  refine r_aload_n cx dX9_readLost_18 (lv_at hl 1 rfl) ?_
  obtain ⟨v5, s6, hc, hF⟩ := bns_some hF
  refine r_callVi cx hP (As := []) (w9_isComplete l Γ ad A s4 v5 s6 hc) mw9_144 ⟨Nat.le_of_ble_eq_true rfl, Nat.le_of_ble_eq_true rfl⟩ (dXr (by decide)) rfl rfl rfl (Nat.le_of_ble_eq_true rfl) hl.1 ⟨Nat.zero_le _, Nat.zero_le _⟩ dX9_readLost_19 (fun H locs hP => ?_)
  refine r_if_eq cx 52 dX9_readLost_22 (by decide) hF (fun hF => ?_) (fun hF => ?_)
  · exact r_vret cx hP hr hk dX9_readLost_52 hF
  · refine r_aload_n cx dX9_readLost_25 (lv_at hl 1 rfl) ?_
    refine r_aload_n cx dX9_readLost_26 (lv_at hl 1 rfl) ?_
    refine gf9_12 cx hP dX9_readLost_27 ?_
    refine gf9_203 cx hP (by decide : 10 < 11) dX9_readLost_30 ?_
    refine r_iload_n cx dX9_readLost_33 (lv_at hl 0 rfl) ?_
    obtain ⟨v7, hc, hF⟩ := bnd_some hF
    refine r_callVi cx hP (As := [.int v3]) (w7_hasCard l Γ ad A 10 (by decide : 10 < 11) v3 s6 v7 hc) mw9_218 ⟨Nat.le_of_ble_eq_true rfl, Nat.le_of_ble_eq_true rfl⟩ (dXg (by decide : 10 < 11) (by decide)) rfl rfl rfl (Nat.le_of_ble_eq_true rfl) hl.1 ⟨Nat.zero_le _, Nat.zero_le _⟩ dX9_readLost_34 (fun H locs hP => ?_)
    obtain ⟨v8, s9, hc, hF⟩ := bns_some hF
    refine r_callVi cx hP (As := [.int v7]) (w9_executes l Γ ad A v7 s6 v8 s9 hc) mw9_154 ⟨Nat.le_of_ble_eq_true rfl, Nat.le_of_ble_eq_true rfl⟩ (dXr (by decide)) rfl rfl rfl (Nat.le_of_ble_eq_true rfl) hl.1 ⟨Nat.zero_le _, Nat.zero_le _⟩ dX9_readLost_37 (fun H locs hP => ?_)
    refine r_if_eq cx 52 dX9_readLost_40 (by decide) hF (fun hF => ?_) (fun hF => ?_)
    · exact r_vret cx hP hr hk dX9_readLost_52 hF
    · refine r_aload_n cx dX9_readLost_43 (lv_at hl 1 rfl) ?_
      refine gf9_12 cx hP dX9_readLost_44 ?_
      refine r_iload_n cx dX9_readLost_47 (lv_at hl 0 rfl) ?_
      obtain ⟨v10, s11, hc, hF⟩ := bns_some hF
      refine r_callVi cx hP (As := [.int v3]) (w4_blockCardOf l Γ ad A 10 (by decide : 10 < 11) v3 s9 v10 s11 hc) mw9_222 ⟨Nat.le_of_ble_eq_true rfl, Nat.le_of_ble_eq_true rfl⟩ (dXg (by decide : 10 < 11) (by decide)) rfl rfl rfl (Nat.le_of_ble_eq_true rfl) hl.1 ⟨Nat.zero_le _, Nat.zero_le _⟩ dX9_readLost_48 (fun H locs hP => ?_)
      refine r_pop cx dX9_readLost_51 rfl ?_
      exact r_vret cx hP hr hk dX9_readLost_52 hF
set_option maxHeartbeats 4000000 in
set_option maxRecDepth 100000 in
theorem w4_canReplaceCard (l : Launch) (Γ : Wc) (ad : Nat → Nat → Nat) (A : Nat → Prop) (n : Nat) (hn : n < 11) (p1 : Int32) (σ : Sig) (r : Int32) (hF : f4_canReplaceCard n p1 σ = some r) : MI l SX Γ ad A yX4_canReplaceCard cX4_canReplaceCard 2 (some .boolean) 1 21 [.ref (ad (n + 1) 0), .int p1] σ r σ := by
  refine MI.of (by decide) (Nat.le_of_ble_eq_true rfl) ?_
  intro p e s m args below meth c ls cx hr hk hP hl
  have hl : lv_has ls 2 [(0, .ref (ad (n + 1) 0)), (1, .int p1)] := hl
  rw [f4_canReplaceCard] at hF
  refine r_aload_n cx dX4_canReplaceCard_0 (lv_at hl 0 rfl) ?_
  refine gf4_35 cx hP hn dX4_canReplaceCard_1 ?_
  refine r_iload_n cx dX4_canReplaceCard_4 (lv_at hl 1 rfl) ?_
  obtain ⟨v1, hc, hF⟩ := bnd_some hF
  refine r_callVi cx hP (As := [.int p1]) (w7_hasCard l Γ ad A n hn p1 σ v1 hc) mw4_155 ⟨Nat.le_of_ble_eq_true rfl, Nat.le_of_ble_eq_true rfl⟩ (dXg hn (by decide)) rfl rfl rfl (Nat.le_of_ble_eq_true rfl) hl.1 ⟨Nat.zero_le _, Nat.zero_le _⟩ dX4_canReplaceCard_5 (fun H locs hP => ?_)
  refine r_if_ne cx 37 dX4_canReplaceCard_8 (by decide) hF (fun hF => ?_) (fun hF => ?_)
  · refine r_iconst cx 0 dX4_canReplaceCard_37 (by decide) ?_
    exact r_zret cx hP hr hk (by decide) dX4_canReplaceCard_38 (prF hF)
  · refine r_aload_n cx dX4_canReplaceCard_11 (lv_at hl 0 rfl) ?_
    refine gf4_35 cx hP hn dX4_canReplaceCard_12 ?_
    refine gf4_123 cx hP hn dX4_canReplaceCard_15 ?_
    refine r_iload_n cx dX4_canReplaceCard_18 (lv_at hl 1 rfl) ?_
    refine r_zald cx hP (dXg hn (by decide)) rfl dX4_canReplaceCard_19 hF (fun v2 hF => ?_)
    refine r_if_ne cx 37 dX4_canReplaceCard_20 (by decide) hF (fun hF => ?_) (fun hF => ?_)
    · refine r_iconst cx 0 dX4_canReplaceCard_37 (by decide) ?_
      exact r_zret cx hP hr hk (by decide) dX4_canReplaceCard_38 (prF hF)
    · refine r_aload_n cx dX4_canReplaceCard_23 (lv_at hl 0 rfl) ?_
      refine gf4_42 cx hP hn dX4_canReplaceCard_24 ?_
      obtain ⟨v3, hc, hF⟩ := bnd_some hF
      refine r_callVi cx hP (As := []) (w2_hasRoom l Γ ad A n hn σ v3 hc) mw4_104 ⟨Nat.le_of_ble_eq_true rfl, Nat.le_of_ble_eq_true rfl⟩ (dXg hn (by decide)) rfl rfl rfl (Nat.le_of_ble_eq_true rfl) hl.1 ⟨Nat.zero_le _, Nat.zero_le _⟩ dX4_canReplaceCard_27 (fun H locs hP => ?_)
      refine r_if_eq cx 37 dX4_canReplaceCard_30 (by decide) hF (fun hF => ?_) (fun hF => ?_)
      · refine r_iconst cx 0 dX4_canReplaceCard_37 (by decide) ?_
        exact r_zret cx hP hr hk (by decide) dX4_canReplaceCard_38 (prF hF)
      · refine r_iconst cx 1 dX4_canReplaceCard_33 (by decide) ?_
        refine r_goto cx 38 dX4_canReplaceCard_34 (by decide) ?_
        exact r_zret cx hP hr hk (by decide) dX4_canReplaceCard_38 (prF hF)
set_option maxHeartbeats 4000000 in
set_option maxRecDepth 100000 in
theorem w4_issueNewCard (l : Launch) (Γ : Wc) (ad : Nat → Nat → Nat) (A : Nat → Prop) (n : Nat) (hn : n < 11) (p1 : Int32) (σ : Sig) (r : Int32) (σ1 : Sig) (hF : f4_issueNewCard n p1 σ = some (r, σ1)) : MI l SX Γ ad A yX4_issueNewCard cX4_issueNewCard 2 (some .int) 1 22 [.ref (ad (n + 1) 0), .int p1] σ r σ1 := by
  refine MI.of (by decide) (Nat.le_of_ble_eq_true rfl) ?_
  intro p e s m args below meth c ls cx hr hk hP hl
  have hl : lv_has ls 2 [(0, .ref (ad (n + 1) 0)), (1, .int p1)] := hl
  rw [f4_issueNewCard] at hF
  refine r_aload_n cx dX4_issueNewCard_0 (lv_at hl 0 rfl) ?_
  refine gf4_35 cx hP hn dX4_issueNewCard_1 ?_
  refine gf4_113 cx hP hn dX4_issueNewCard_4 ?_
  refine r_iload_n cx dX4_issueNewCard_7 (lv_at hl 1 rfl) ?_
  refine r_aload_n cx dX4_issueNewCard_8 (lv_at hl 0 rfl) ?_
  refine gf4_42 cx hP hn dX4_issueNewCard_9 ?_
  refine r_iload_n cx dX4_issueNewCard_12 (lv_at hl 1 rfl) ?_
  obtain ⟨v1, s2, hc, hF⟩ := bns_some hF
  refine r_callVi cx hP (As := [.int p1]) (w2_add l Γ ad A n hn p1 σ v1 s2 hc) mw4_117 ⟨Nat.le_of_ble_eq_true rfl, Nat.le_of_ble_eq_true rfl⟩ (dXg hn (by decide)) rfl rfl rfl (Nat.le_of_ble_eq_true rfl) hl.1 ⟨Nat.zero_le _, Nat.zero_le _⟩ dX4_issueNewCard_13 (fun H locs hP => ?_)
  refine r_iast cx hP (dXg hn (by decide)) (fun _ => rfl) dX4_issueNewCard_16 hF (fun s3 H locs hP hF => ?_)
  refine r_aload_n cx dX4_issueNewCard_17 (lv_at hl 0 rfl) ?_
  refine gf4_49 cx hP hn dX4_issueNewCard_18 ?_
  refine r_dup cx dX4_issueNewCard_21 rfl ?_
  refine gf4_120 cx hP hn dX4_issueNewCard_22 hF (fun v4 hF => ?_)
  refine r_iconst cx 5 dX4_issueNewCard_25 (by decide) ?_
  refine r_iadd cx dX4_issueNewCard_26 hF (fun v5 hF => ?_)
  refine pf4_120 cx hP hn dX4_issueNewCard_27 hF (fun s6 H locs hP hF => ?_)
  refine r_aload_n cx dX4_issueNewCard_30 (lv_at hl 0 rfl) ?_
  refine gf4_35 cx hP hn dX4_issueNewCard_31 ?_
  refine gf4_113 cx hP hn dX4_issueNewCard_34 ?_
  refine r_iload_n cx dX4_issueNewCard_37 (lv_at hl 1 rfl) ?_
  refine r_iald cx hP (dXg hn (by decide)) rfl dX4_issueNewCard_38 hF (fun v7 hF => ?_)
  exact r_iret cx hP hr hk dX4_issueNewCard_39 hF
set_option maxHeartbeats 4000000 in
set_option maxRecDepth 100000 in
theorem w9_readReplace (l : Launch) (Γ : Wc) (ad : Nat → Nat → Nat) (A : Nat → Prop)  (σ : Sig) (σ1 : Sig) (hF : f9_readReplace  σ = some σ1) : MV l SX Γ ad A yX9_readReplace cX9_readReplace 2 3 67 [.ref (ad 0 3)] σ σ1 := by
  refine MV.of (by decide) (Nat.le_of_ble_eq_true rfl) ?_
  intro p e s m args below meth c ls cx hr hk hP hl
  have hl : lv_has ls 2 [(0, .ref (ad 0 3))] := hl
  rw [f9_readReplace] at hF
  refine r_aload_n cx dX9_readReplace_0 (lv_at hl 0 rfl) ?_
  refine r_iconst cx 0 dX9_readReplace_1 (by decide) ?_
  refine r_aload_n cx dX9_readReplace_2 (lv_at hl 0 rfl) ?_
  refine gf9_12 cx hP dX9_readReplace_3 ?_
  refine gf9_203 cx hP (by decide : 10 < 11) dX9_readReplace_6 ?_
  refine gf9_207 cx hP (by decide : 10 < 11) dX9_readReplace_9 hF (fun v1 hF => ?_)
  refine r_iconst cx 1 dX9_readReplace_12 (by decide) ?_
  refine r_isub cx dX9_readReplace_13 hF (fun v2 hF => ?_)
  obtain ⟨v3, s4, hc, hF⟩ := bns_some hF
  refine r_callVi cx hP (As := [.int 0, .int v2]) (w9_nextNumber l Γ ad A 0 v2 σ v3 s4 hc) mw9_141 ⟨Nat.le_of_ble_eq_true rfl, Nat.le_of_ble_eq_true rfl⟩ (dXr (by decide)) rfl rfl rfl (Nat.le_of_ble_eq_true rfl) hl.1 ⟨Nat.zero_le _, Nat.zero_le _⟩ dX9_readReplace_14 (fun H locs hP => ?_)
  refine r_istore_n cx [(1, .int v3), (0, .ref (ad 0 3))] dX9_readReplace_17 hl (by decide) rfl (fun ls hl => ?_)
  refine r_aload_n cx dX9_readReplace_18 (lv_at hl 1 rfl) ?_
  obtain ⟨v5, s6, hc, hF⟩ := bns_some hF
  refine r_callVi cx hP (As := []) (w9_isComplete l Γ ad A s4 v5 s6 hc) mw9_144 ⟨Nat.le_of_ble_eq_true rfl, Nat.le_of_ble_eq_true rfl⟩ (dXr (by decide)) rfl rfl rfl (Nat.le_of_ble_eq_true rfl) hl.1 ⟨Nat.zero_le _, Nat.zero_le _⟩ dX9_readReplace_19 (fun H locs hP => ?_)
  refine r_if_eq cx 49 dX9_readReplace_22 (by decide) hF (fun hF => ?_) (fun hF => ?_)
  · exact r_vret cx hP hr hk dX9_readReplace_49 hF
  · refine r_aload_n cx dX9_readReplace_25 (lv_at hl 1 rfl) ?_
    refine r_aload_n cx dX9_readReplace_26 (lv_at hl 1 rfl) ?_
    refine gf9_12 cx hP dX9_readReplace_27 ?_
    refine r_iload_n cx dX9_readReplace_30 (lv_at hl 0 rfl) ?_
    obtain ⟨v7, hc, hF⟩ := bnd_some hF
    refine r_callVi cx hP (As := [.int v3]) (w4_canReplaceCard l Γ ad A 10 (by decide : 10 < 11) v3 s6 v7 hc) mw9_226 ⟨Nat.le_of_ble_eq_true rfl, Nat.le_of_ble_eq_true rfl⟩ (dXg (by decide : 10 < 11) (by decide)) rfl rfl rfl (Nat.le_of_ble_eq_true rfl) hl.1 ⟨Nat.zero_le _, Nat.zero_le _⟩ dX9_readReplace_31 (fun H locs hP => ?_)
    obtain ⟨v8, s9, hc, hF⟩ := bns_some hF
    refine r_callVi cx hP (As := [.int v7]) (w9_executes l Γ ad A v7 s6 v8 s9 hc) mw9_154 ⟨Nat.le_of_ble_eq_true rfl, Nat.le_of_ble_eq_true rfl⟩ (dXr (by decide)) rfl rfl rfl (Nat.le_of_ble_eq_true rfl) hl.1 ⟨Nat.zero_le _, Nat.zero_le _⟩ dX9_readReplace_34 (fun H locs hP => ?_)
    refine r_if_eq cx 49 dX9_readReplace_37 (by decide) hF (fun hF => ?_) (fun hF => ?_)
    · exact r_vret cx hP hr hk dX9_readReplace_49 hF
    · refine r_aload_n cx dX9_readReplace_40 (lv_at hl 1 rfl) ?_
      refine gf9_12 cx hP dX9_readReplace_41 ?_
      refine r_iload_n cx dX9_readReplace_44 (lv_at hl 0 rfl) ?_
      obtain ⟨v10, s11, hc, hF⟩ := bns_some hF
      refine r_callVi cx hP (As := [.int v3]) (w4_issueNewCard l Γ ad A 10 (by decide : 10 < 11) v3 s9 v10 s11 hc) mw9_229 ⟨Nat.le_of_ble_eq_true rfl, Nat.le_of_ble_eq_true rfl⟩ (dXg (by decide : 10 < 11) (by decide)) rfl rfl rfl (Nat.le_of_ble_eq_true rfl) hl.1 ⟨Nat.zero_le _, Nat.zero_le _⟩ dX9_readReplace_45 (fun H locs hP => ?_)
      refine r_pop cx dX9_readReplace_48 rfl ?_
      exact r_vret cx hP hr hk dX9_readReplace_49 hF
set_option maxHeartbeats 4000000 in
set_option maxRecDepth 100000 in
theorem w9_readPeacocks (l : Launch) (Γ : Wc) (ad : Nat → Nat → Nat) (A : Nat → Prop)  (σ : Sig) (σ1 : Sig) (hF : f9_readPeacocks  σ = some σ1) : MV l SX Γ ad A yX9_readPeacocks cX9_readPeacocks 3 3 67 [.ref (ad 0 3)] σ σ1 := by
  refine MV.of (by decide) (Nat.le_of_ble_eq_true rfl) ?_
  intro p e s m args below meth c ls cx hr hk hP hl
  have hl : lv_has ls 3 [(0, .ref (ad 0 3))] := hl
  rw [f9_readPeacocks] at hF
  refine r_aload_n cx dX9_readPeacocks_0 (lv_at hl 0 rfl) ?_
  refine r_iconst cx 0 dX9_readPeacocks_1 (by decide) ?_
  refine r_bipush cx 95 dX9_readPeacocks_2 (by decide) ?_
  obtain ⟨v1, s2, hc, hF⟩ := bns_some hF
  refine r_callVi cx hP (As := [.int 0, .int 95]) (w9_nextNumber l Γ ad A 0 95 σ v1 s2 hc) mw9_141 ⟨Nat.le_of_ble_eq_true rfl, Nat.le_of_ble_eq_true rfl⟩ (dXr (by decide)) rfl rfl rfl (Nat.le_of_ble_eq_true rfl) hl.1 ⟨Nat.zero_le _, Nat.zero_le _⟩ dX9_readPeacocks_4 (fun H locs hP => ?_)
  refine r_istore_n cx [(1, .int v1), (0, .ref (ad 0 3))] dX9_readPeacocks_7 hl (by decide) rfl (fun ls hl => ?_)
  refine r_aload_n cx dX9_readPeacocks_8 (lv_at hl 1 rfl) ?_
  refine r_iload_n cx dX9_readPeacocks_9 (lv_at hl 0 rfl) ?_
  refine r_bipush cx 95 dX9_readPeacocks_10 (by decide) ?_
  obtain ⟨v3, s4, hc, hF⟩ := bns_some hF
  refine r_callVi cx hP (As := [.int v1, .int 95]) (w9_nextNumber l Γ ad A v1 95 s2 v3 s4 hc) mw9_141 ⟨Nat.le_of_ble_eq_true rfl, Nat.le_of_ble_eq_true rfl⟩ (dXr (by decide)) rfl rfl rfl (Nat.le_of_ble_eq_true rfl) hl.1 ⟨Nat.zero_le _, Nat.zero_le _⟩ dX9_readPeacocks_12 (fun H locs hP => ?_)
  refine r_istore_n cx [(2, .int v3), (1, .int v1), (0, .ref (ad 0 3))] dX9_readPeacocks_15 hl (by decide) rfl (fun ls hl => ?_)
  refine r_aload_n cx dX9_readPeacocks_16 (lv_at hl 2 rfl) ?_
  obtain ⟨v5, s6, hc, hF⟩ := bns_some hF
  refine r_callVi cx hP (As := []) (w9_isComplete l Γ ad A s4 v5 s6 hc) mw9_144 ⟨Nat.le_of_ble_eq_true rfl, Nat.le_of_ble_eq_true rfl⟩ (dXr (by decide)) rfl rfl rfl (Nat.le_of_ble_eq_true rfl) hl.1 ⟨Nat.zero_le _, Nat.zero_le _⟩ dX9_readPeacocks_17 (fun H locs hP => ?_)
  refine r_if_eq cx 35 dX9_readPeacocks_20 (by decide) hF (fun hF => ?_) (fun hF => ?_)
  · exact r_vret cx hP hr hk dX9_readPeacocks_35 hF
  · refine r_aload_n cx dX9_readPeacocks_23 (lv_at hl 2 rfl) ?_
    refine gf9_12 cx hP dX9_readPeacocks_24 ?_
    refine gf9_165 cx hP (by decide : 10 < 11) dX9_readPeacocks_27 ?_
    refine r_iload_n cx dX9_readPeacocks_30 (lv_at hl 1 rfl) ?_
    refine r_iload_n cx dX9_readPeacocks_31 (lv_at hl 0 rfl) ?_
    obtain ⟨s7, hc, hF⟩ := bnd_some hF
    refine r_callVv cx hP (As := [.int v1, .int v3]) (w3_letPeacocksWalk l Γ ad A 10 (by decide : 10 < 11) v1 v3 s6 s7 hc) mw9_232 ⟨Nat.le_of_ble_eq_true rfl, Nat.le_of_ble_eq_true rfl⟩ (dXg (by decide : 10 < 11) (by decide)) rfl rfl rfl (Nat.le_of_ble_eq_true rfl) hl.1 ⟨Nat.zero_le _, Nat.zero_le _⟩ dX9_readPeacocks_32 (fun H locs hP => ?_)
    exact r_vret cx hP hr hk dX9_readPeacocks_35 hF
set_option maxHeartbeats 4000000 in
set_option maxRecDepth 100000 in
theorem w3_canGoOn (l : Launch) (Γ : Wc) (ad : Nat → Nat → Nat) (A : Nat → Prop) (n : Nat) (hn : n < 11) (p1 : Int32) (σ : Sig) (r : Int32) (hF : f3_canGoOn n p1 σ = some r) : MI l SX Γ ad A yX3_canGoOn cX3_canGoOn 2 (some .boolean) 0 0 [.ref (ad (n + 1) 1), .int p1] σ r σ := by
  refine MI.of (by decide) (Nat.le_of_ble_eq_true rfl) ?_
  intro p e s m args below meth c ls cx hr hk hP hl
  have hl : lv_has ls 2 [(0, .ref (ad (n + 1) 1)), (1, .int p1)] := hl
  rw [f3_canGoOn] at hF
  refine r_aload_n cx dX3_canGoOn_0 (lv_at hl 0 rfl) ?_
  refine gf3_9 cx hP hn dX3_canGoOn_1 hF (fun v1 hF => ?_)
  refine r_iload_n cx dX3_canGoOn_4 (lv_at hl 1 rfl) ?_
  refine r_iadd cx dX3_canGoOn_5 hF (fun v2 hF => ?_)
  refine r_sipush cx 9599 dX3_canGoOn_6 (by decide) ?_
  refine r_icmp_gt cx 16 dX3_canGoOn_9 (by decide) hF (fun hF => ?_) (fun hF => ?_)
  · refine r_iconst cx 0 dX3_canGoOn_16 (by decide) ?_
    exact r_zret cx hP hr hk (by decide) dX3_canGoOn_17 (prF hF)
  · refine r_iconst cx 1 dX3_canGoOn_12 (by decide) ?_
    refine r_goto cx 17 dX3_canGoOn_13 (by decide) ?_
    exact r_zret cx hP hr hk (by decide) dX3_canGoOn_17 (prF hF)
set_option maxHeartbeats 4000000 in
set_option maxRecDepth 100000 in
theorem w0_beginTick (l : Launch) (Γ : Wc) (ad : Nat → Nat → Nat) (A : Nat → Prop) (n : Nat) (hn : n < 11) (σ : Sig) (σ1 : Sig) (hF : f0_beginTick n σ = some σ1) : MV l SX Γ ad A yX0_beginTick cX0_beginTick 2 0 0 [.ref (ad (n + 1) 3)] σ σ1 := by
  refine MV.of (by decide) (Nat.le_of_ble_eq_true rfl) ?_
  intro p e s m args below meth c ls cx hr hk hP hl
  have hl : lv_has ls 2 [(0, .ref (ad (n + 1) 3))] := hl
  rw [f0_beginTick] at hF
  generalize hH0 : s.heap = H0 at hP ⊢
  generalize ([] : List Loc) = locs0 at hP ⊢
  clear hH0
  have b2 : ∀ (fu : Nat) (x1 : Int32) (σ : Sig) (H : Heap) (locs : List Loc) (ls : Array Slot), PS SX Γ ad A s σ H locs → lv_has ls 2 [(0, .ref (ad (n + 1) 3)), (1, .int x1)] → f0_beginTick_b2 n fu x1 σ = some σ1 → W p l e (rmz 0 0) s m args below meth c H locs 0 0 (QV SX Γ ad A below args s σ1) (F0 m 2 ls []) := by
    intro fu
    induction fu with
    | zero => intro x1 σ H locs ls hP hl hF; exact nofu hF
    | succ fu ih =>
      intro x1 σ H locs ls hP hl hF
      rw [f0_beginTick_b2] at hF
      refine r_iload_n cx dX0_beginTick_2 (lv_at hl 1 rfl) ?_
      refine r_aload_n cx dX0_beginTick_3 (lv_at hl 0 rfl) ?_
      refine gf0_33 cx hP hn dX0_beginTick_4 hF (fun v1 hF => ?_)
      refine r_icmp_ge cx 23 dX0_beginTick_7 (by decide) hF (fun hF => ?_) (fun hF => ?_)
      · exact r_vret cx hP hr hk dX0_beginTick_23 hF
      · refine r_aload_n cx dX0_beginTick_10 (lv_at hl 0 rfl) ?_
        refine gf0_30 cx hP hn dX0_beginTick_11 ?_
        refine r_iload_n cx dX0_beginTick_14 (lv_at hl 1 rfl) ?_
        refine r_iconst cx 0 dX0_beginTick_15 (by decide) ?_
        refine r_iast cx hP (dXg hn (by decide)) (fun _ => rfl) dX0_beginTick_16 hF (fun s2 H locs hP hF => ?_)
        refine r_iinc cx (k := 1) (w := 1) (fun v3 => [(1, .int v3), (0, .ref (ad (n + 1) 3))]) dX0_beginTick_17 hl rfl (by decide) (by decide) hF (fun _ => rfl) (fun v3 ls hF hl => ?_)
        refine r_goto cx 2 dX0_beginTick_20 (by decide) ?_
        exact ih v3 s2 _ _ _ hP (lv_sub hl [1, 0] rfl) hF
  refine r_iconst cx 0 dX0_beginTick_0 (by decide) ?_
  refine r_istore_n cx [(1, .int 0), (0, .ref (ad (n + 1) 3))] dX0_beginTick_1 hl (by decide) rfl (fun ls hl => ?_)
  exact b2 FU 0 σ _ _ _ hP (lv_sub hl [1, 0] rfl) hF
set_option maxHeartbeats 4000000 in
set_option maxRecDepth 100000 in
theorem w0_beginDay (l : Launch) (Γ : Wc) (ad : Nat → Nat → Nat) (A : Nat → Prop) (n : Nat) (hn : n < 11) (p1 : Int32) (σ : Sig) (σ1 : Sig) (hF : f0_beginDay n p1 σ = some σ1) : MV l SX Γ ad A yX0_beginDay cX0_beginDay 3 1 22 [.ref (ad (n + 1) 3), .int p1] σ σ1 := by
  refine MV.of (by decide) (Nat.le_of_ble_eq_true rfl) ?_
  intro p e s m args below meth c ls cx hr hk hP hl
  have hl : lv_has ls 3 [(0, .ref (ad (n + 1) 3)), (1, .int p1)] := hl
  rw [f0_beginDay] at hF
  generalize hH0 : s.heap = H0 at hP ⊢
  generalize ([] : List Loc) = locs0 at hP ⊢
  clear hH0
  have b38 : ∀ (rc : Int32 → Int32 → Sig → Option (Sig)) (ih : ∀ (x1 : Int32) (x2 : Int32) (σ : Sig) (H : Heap) (locs : List Loc) (ls : Array Slot), PS SX Γ ad A s σ H locs → lv_has ls 3 [(0, .ref (ad (n + 1) 3)), (1, .int x1), (2, .int x2)] → rc x1 x2 σ = some σ1 → W p l e (rmz 1 22) s m args below meth c H locs 0 0 (QV SX Γ ad A below args s σ1) (F0 m 2 ls [])) (x1 : Int32) (x2 : Int32) (σ : Sig) (H : Heap) (locs : List Loc) (ls : Array Slot), PS SX Γ ad A s σ H locs → lv_has ls 3 [(0, .ref (ad (n + 1) 3)), (1, .int x1), (2, .int x2)] → f0_beginDay_b38 n rc x1 x2 σ = some σ1 → W p l e (rmz 1 22) s m args below meth c H locs 0 0 (QV SX Γ ad A below args s σ1) (F0 m 38 ls []) := by
    intro rc ih x1 x2 σ H locs ls hP hl hF
    rw [f0_beginDay_b38] at hF
    refine r_iinc cx (k := 2) (w := 1) (fun v1 => [(2, .int v1), (0, .ref (ad (n + 1) 3)), (1, .int x1)]) dX0_beginDay_38 hl rfl (by decide) (by decide) hF (fun _ => rfl) (fun v1 ls hF hl => ?_)
    refine r_goto cx 2 dX0_beginDay_41 (by decide) ?_
    exact ih x1 v1 σ _ _ _ hP (lv_sub hl [1, 2, 0] rfl) hF
  have b2 : ∀ (fu : Nat) (x1 : Int32) (x2 : Int32) (σ : Sig) (H : Heap) (locs : List Loc) (ls : Array Slot), PS SX Γ ad A s σ H locs → lv_has ls 3 [(0, .ref (ad (n + 1) 3)), (1, .int x1), (2, .int x2)] → f0_beginDay_b2 n fu x1 x2 σ = some σ1 → W p l e (rmz 1 22) s m args below meth c H locs 0 0 (QV SX Γ ad A below args s σ1) (F0 m 2 ls []) := by
    intro fu
    induction fu with
    | zero => intro x1 x2 σ H locs ls hP hl hF; exact nofu hF
    | succ fu ih =>
      intro x1 x2 σ H locs ls hP hl hF
      rw [f0_beginDay_b2] at hF
      refine r_iload_n cx dX0_beginDay_2 (lv_at hl 2 rfl) ?_
      refine r_aload_n cx dX0_beginDay_3 (lv_at hl 0 rfl) ?_
      refine gf0_33 cx hP hn dX0_beginDay_4 hF (fun v2 hF => ?_)
      refine r_icmp_ge cx 44 dX0_beginDay_7 (by decide) hF (fun hF => ?_) (fun hF => ?_)
      · exact r_vret cx hP hr hk dX0_beginDay_44 hF
      · refine r_aload_n cx dX0_beginDay_10 (lv_at hl 0 rfl) ?_
        refine r_iload_n cx dX0_beginDay_11 (lv_at hl 2 rfl) ?_
        refine r_iload_n cx dX0_beginDay_12 (lv_at hl 1 rfl) ?_
        obtain ⟨v3, hc, hF⟩ := bnd_some hF
        refine r_callVi cx hP (As := [.int x2, .int x1]) (w0_hasSeasonOn l Γ ad A n hn x2 x1 σ v3 hc) mw0_43 ⟨Nat.le_of_ble_eq_true rfl, Nat.le_of_ble_eq_true rfl⟩ (dXg hn (by decide)) rfl rfl rfl (Nat.le_of_ble_eq_true rfl) hl.1 ⟨Nat.zero_le _, Nat.zero_le _⟩ dX0_beginDay_13 (fun H locs hP => ?_)
        refine r_if_eq cx 38 dX0_beginDay_16 (by decide) hF (fun hF => ?_) (fun hF => ?_)
        · exact b38 (f0_beginDay_b2 n fu) ih x1 x2 σ _ _ _ hP (lv_sub hl [0, 1, 2] rfl) hF
        · refine r_aload_n cx dX0_beginDay_19 (lv_at hl 0 rfl) ?_
          refine gf0_24 cx hP hn dX0_beginDay_20 ?_
          refine r_iload_n cx dX0_beginDay_23 (lv_at hl 2 rfl) ?_
          refine r_bipush cx 50 dX0_beginDay_24 (by decide) ?_
          refine r_aload_n cx dX0_beginDay_26 (lv_at hl 0 rfl) ?_
          refine gf0_24 cx hP hn dX0_beginDay_27 ?_
          refine r_iload_n cx dX0_beginDay_30 (lv_at hl 2 rfl) ?_
          refine r_iald cx hP (dXg hn (by decide)) rfl dX0_beginDay_31 hF (fun v4 hF => ?_)
          refine r_iconst cx 3 dX0_beginDay_32 (by decide) ?_
          refine r_iadd cx dX0_beginDay_33 hF (fun v5 hF => ?_)
          refine r_mmin cx mw0_47 ⟨Nat.le_of_ble_eq_true rfl, Nat.le_of_ble_eq_true rfl⟩ ⟨Nat.zero_le _, Nat.zero_le _⟩ hl.1 dX0_beginDay_34 hF (fun v6 hF => ?_)
          refine r_iast cx hP (dXg hn (by decide)) (fun _ => rfl) dX0_beginDay_37 hF (fun s7 H locs hP hF => ?_)
          exact b38 (f0_beginDay_b2 n fu) ih x1 x2 s7 _ _ _ hP (lv_sub hl [0, 1, 2] rfl) hF
  refine r_iconst cx 0 dX0_beginDay_0 (by decide) ?_
  refine r_istore_n cx [(2, .int 0), (0, .ref (ad (n + 1) 3)), (1, .int p1)] dX0_beginDay_1 hl (by decide) rfl (fun ls hl => ?_)
  exact b2 FU p1 0 σ _ _ _ hP (lv_sub hl [1, 2, 0] rfl) hF
set_option maxHeartbeats 4000000 in
set_option maxRecDepth 100000 in
theorem w4_letTicksPass (l : Launch) (Γ : Wc) (ad : Nat → Nat → Nat) (A : Nat → Prop) (n : Nat) (hn : n < 11) (p1 : Int32) (σ : Sig) (σ1 : Sig) (hF : f4_letTicksPass n p1 σ = some σ1) : MV l SX Γ ad A yX4_letTicksPass cX4_letTicksPass 4 2 44 [.ref (ad (n + 1) 0), .int p1] σ σ1 := by
  refine MV.of (by decide) (Nat.le_of_ble_eq_true rfl) ?_
  intro p e s m args below meth c ls cx hr hk hP hl
  have hl : lv_has ls 4 [(0, .ref (ad (n + 1) 0)), (1, .int p1)] := hl
  rw [f4_letTicksPass] at hF
  generalize hH0 : s.heap = H0 at hP ⊢
  generalize ([] : List Loc) = locs0 at hP ⊢
  clear hH0
  have b32 : ∀ (fu : Nat) (x3 : Int32) (σ : Sig) (H : Heap) (locs : List Loc) (ls : Array Slot), PS SX Γ ad A s σ H locs → lv_has ls 4 [(0, .ref (ad (n + 1) 0)), (3, .int x3)] → f4_letTicksPass_b32 n fu x3 σ = some σ1 → W p l e (rmz 2 44) s m args below meth c H locs 0 0 (QV SX Γ ad A below args s σ1) (F0 m 32 ls []) := by
    intro fu
    induction fu with
    | zero => intro x3 σ H locs ls hP hl hF; exact nofu hF
    | succ fu ih =>
      intro x3 σ H locs ls hP hl hF
      rw [f4_letTicksPass_b32] at hF
      refine r_iload_n cx dX4_letTicksPass_32 (lv_at hl 1 rfl) ?_
      refine r_aload_n cx dX4_letTicksPass_33 (lv_at hl 0 rfl) ?_
      refine gf4_12 cx hP hn dX4_letTicksPass_34 ?_
      obtain ⟨v1, hc, hF⟩ := bnd_some hF
      refine r_callVi cx hP (As := []) (w3_today l Γ ad A n hn σ v1 hc) mw4_86 ⟨Nat.le_of_ble_eq_true rfl, Nat.le_of_ble_eq_true rfl⟩ (dXg hn (by decide)) rfl rfl rfl (Nat.le_of_ble_eq_true rfl) hl.1 ⟨Nat.zero_le _, Nat.zero_le _⟩ dX4_letTicksPass_37 (fun H locs hP => ?_)
      refine r_icmp_gt cx 57 dX4_letTicksPass_40 (by decide) hF (fun hF => ?_) (fun hF => ?_)
      · exact r_vret cx hP hr hk dX4_letTicksPass_57 hF
      · refine r_aload_n cx dX4_letTicksPass_43 (lv_at hl 0 rfl) ?_
        refine gf4_28 cx hP hn dX4_letTicksPass_44 ?_
        refine r_iload_n cx dX4_letTicksPass_47 (lv_at hl 1 rfl) ?_
        obtain ⟨s2, hc, hF⟩ := bnd_some hF
        refine r_callVv cx hP (As := [.int x3]) (w0_beginDay l Γ ad A n hn x3 σ s2 hc) mw4_96 ⟨Nat.le_of_ble_eq_true rfl, Nat.le_of_ble_eq_true rfl⟩ (dXg hn (by decide)) rfl rfl rfl (Nat.le_of_ble_eq_true rfl) hl.1 ⟨Nat.zero_le _, Nat.zero_le _⟩ dX4_letTicksPass_48 (fun H locs hP => ?_)
        refine r_iinc cx (k := 1) (w := 1) (fun v3 => [(3, .int v3), (0, .ref (ad (n + 1) 0))]) dX4_letTicksPass_51 hl rfl (by decide) (by decide) hF (fun _ => rfl) (fun v3 ls hF hl => ?_)
        refine r_goto cx 32 dX4_letTicksPass_54 (by decide) ?_
        exact ih v3 s2 _ _ _ hP (lv_sub hl [1, 0] rfl) hF
  refine r_aload_n cx dX4_letTicksPass_0 (lv_at hl 0 rfl) ?_
  refine gf4_12 cx hP hn dX4_letTicksPass_1 ?_
  obtain ⟨v4, hc, hF⟩ := bnd_some hF
  refine r_callVi cx hP (As := []) (w3_today l Γ ad A n hn σ v4 hc) mw4_86 ⟨Nat.le_of_ble_eq_true rfl, Nat.le_of_ble_eq_true rfl⟩ (dXg hn (by decide)) rfl rfl rfl (Nat.le_of_ble_eq_true rfl) hl.1 ⟨Nat.zero_le _, Nat.zero_le _⟩ dX4_letTicksPass_4 (fun H locs hP => ?_)
  refine r_istore_n cx [(2, .int v4), (0, .ref (ad (n + 1) 0)), (1, .int p1)] dX4_letTicksPass_7 hl (by decide) rfl (fun ls hl => ?_)
  refine r_aload_n cx dX4_letTicksPass_8 (lv_at hl 1 rfl) ?_
  refine gf4_12 cx hP hn dX4_letTicksPass_9 ?_
  refine r_dup cx dX4_letTicksPass_12 rfl ?_
  refine gf4_90 cx hP hn dX4_letTicksPass_13 hF (fun v5 hF => ?_)
  refine r_iload_n cx dX4_letTicksPass_16 (lv_at hl 2 rfl) ?_
  refine r_iadd cx dX4_letTicksPass_17 hF (fun v6 hF => ?_)
  refine pf4_90 cx hP hn dX4_letTicksPass_18 hF (fun s7 H locs hP hF => ?_)
  refine r_aload_n cx dX4_letTicksPass_21 (lv_at hl 1 rfl) ?_
  refine gf4_28 cx hP hn dX4_letTicksPass_22 ?_
  obtain ⟨s8, hc, hF⟩ := bnd_some hF
  refine r_callVv cx hP (As := []) (w0_beginTick l Γ ad A n hn s7 s8 hc) mw4_93 ⟨Nat.le_of_ble_eq_true rfl, Nat.le_of_ble_eq_true rfl⟩ (dXg hn (by decide)) rfl rfl rfl (Nat.le_of_ble_eq_true rfl) hl.1 ⟨Nat.zero_le _, Nat.zero_le _⟩ dX4_letTicksPass_25 (fun H locs hP => ?_)
  refine r_iload_n cx dX4_letTicksPass_28 (lv_at hl 0 rfl) ?_
  refine r_iconst cx 1 dX4_letTicksPass_29 (by decide) ?_
  refine r_iadd cx dX4_letTicksPass_30 hF (fun v9 hF => ?_)
  refine r_istore_n cx [(3, .int v9), (2, .int v4), (0, .ref (ad (n + 1) 0)), (1, .int p1)] dX4_letTicksPass_31 hl (by decide) rfl (fun ls hl => ?_)
  exact b32 FU v9 s8 _ _ _ hP (lv_sub hl [2, 0] rfl) hF
