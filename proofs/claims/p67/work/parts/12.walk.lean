/-! printed: the walks -/
set_option maxHeartbeats 4000000 in
set_option maxRecDepth 100000 in
theorem w4_countWrongSums (l : Launch) (Γ : Wc) (ad : Nat → Nat → Nat) (A : Nat → Prop) (n : Nat) (hn : n < 11) (σ : Sig) (r : Int32) (hF : f4_countWrongSums n σ = some r) : MI l SX Γ ad A yX4_countWrongSums cX4_countWrongSums 2 (some .int) 1 22 [.ref (ad (n + 1) 0)] σ r σ := by
  refine MI.of (by decide) (Nat.le_of_ble_eq_true rfl) ?_
  intro p e s m args below meth c ls cx hr hk hP hl
  have hl : lv_has ls 2 [(0, .ref (ad (n + 1) 0))] := hl
  rw [f4_countWrongSums] at hF
  generalize hH0 : s.heap = H0 at hP ⊢
  generalize ([] : List Loc) = locs0 at hP ⊢
  clear hH0
  have b22 : ∀ (t0 : Int32) (H : Heap) (locs : List Loc) (ls : Array Slot), PS SX Γ ad A s σ H locs → lv_has ls 2 [(0, .ref (ad (n + 1) 0))] → f4_countWrongSums_b22 n t0 σ = some r → W p l e (rmz 1 22) s m args below meth c H locs 0 0 (QI SX Γ ad A below args s r σ) (F0 m 22 ls [.int t0]) := by
    intro t0 H locs ls hP hl hF
    rw [f4_countWrongSums_b22] at hF
    refine r_istore_n cx [(1, .int t0), (0, .ref (ad (n + 1) 0))] dX4_countWrongSums_22 hl (by decide) rfl (fun ls hl => ?_)
    refine r_aload_n cx dX4_countWrongSums_23 (lv_at hl 1 rfl) ?_
    refine gf4_49 cx hP hn dX4_countWrongSums_24 ?_
    refine gf4_233 cx hP hn dX4_countWrongSums_27 hF (fun v1 hF => ?_)
    refine r_aload_n cx dX4_countWrongSums_30 (lv_at hl 1 rfl) ?_
    refine gf4_49 cx hP hn dX4_countWrongSums_31 ?_
    refine gf4_180 cx hP hn dX4_countWrongSums_34 hF (fun v2 hF => ?_)
    refine r_aload_n cx dX4_countWrongSums_37 (lv_at hl 1 rfl) ?_
    refine gf4_35 cx hP hn dX4_countWrongSums_38 ?_
    obtain ⟨v3, hc, hF⟩ := bnd_some hF
    refine r_callVi cx hP (As := []) (w7_sumOfOwed l Γ ad A n hn σ v3 hc) mw4_255 ⟨Nat.le_of_ble_eq_true rfl, Nat.le_of_ble_eq_true rfl⟩ (dXg hn (by decide)) rfl rfl rfl (Nat.le_of_ble_eq_true rfl) hl.1 ⟨Nat.zero_le _, Nat.zero_le _⟩ dX4_countWrongSums_41 (fun H locs hP => ?_)
    refine r_iadd cx dX4_countWrongSums_44 hF (fun v4 hF => ?_)
    refine r_icmp_ne cx 52 dX4_countWrongSums_45 (by decide) hF (fun hF => ?_) (fun hF => ?_)
    · refine r_iload_n cx dX4_countWrongSums_52 (lv_at hl 0 rfl) ?_
      refine r_iconst cx 1 dX4_countWrongSums_53 (by decide) ?_
      refine r_iadd cx dX4_countWrongSums_54 hF (fun v5 hF => ?_)
      exact r_iret cx hP hr hk dX4_countWrongSums_55 (prF hF)
    · refine r_iload_n cx dX4_countWrongSums_48 (lv_at hl 0 rfl) ?_
      refine r_goto cx 55 dX4_countWrongSums_49 (by decide) ?_
      exact r_iret cx hP hr hk dX4_countWrongSums_55 (prF hF)
  refine r_aload_n cx dX4_countWrongSums_0 (lv_at hl 0 rfl) ?_
  refine gf4_28 cx hP hn dX4_countWrongSums_1 ?_
  obtain ⟨v6, hc, hF⟩ := bnd_some hF
  refine r_callVi cx hP (As := []) (w0_sumOfVisits l Γ ad A n hn σ v6 hc) mw4_251 ⟨Nat.le_of_ble_eq_true rfl, Nat.le_of_ble_eq_true rfl⟩ (dXg hn (by decide)) rfl rfl rfl (Nat.le_of_ble_eq_true rfl) hl.1 ⟨Nat.zero_le _, Nat.zero_le _⟩ dX4_countWrongSums_4 (fun H locs hP => ?_)
  refine r_aload_n cx dX4_countWrongSums_7 (lv_at hl 0 rfl) ?_
  refine gf4_35 cx hP hn dX4_countWrongSums_8 ?_
  obtain ⟨v7, hc, hF⟩ := bnd_some hF
  refine r_callVi cx hP (As := []) (w7_sumOfVisits l Γ ad A n hn σ v7 hc) mw4_254 ⟨Nat.le_of_ble_eq_true rfl, Nat.le_of_ble_eq_true rfl⟩ (dXg hn (by decide)) rfl rfl rfl (Nat.le_of_ble_eq_true rfl) hl.1 ⟨Nat.zero_le _, Nat.zero_le _⟩ dX4_countWrongSums_11 (fun H locs hP => ?_)
  refine r_icmp_ne cx 21 dX4_countWrongSums_14 (by decide) hF (fun hF => ?_) (fun hF => ?_)
  · refine r_iconst cx 1 dX4_countWrongSums_21 (by decide) ?_
    exact b22 1 _ _ _ hP (lv_sub hl [0] rfl) hF
  · refine r_iconst cx 0 dX4_countWrongSums_17 (by decide) ?_
    refine r_goto cx 22 dX4_countWrongSums_18 (by decide) ?_
    exact b22 0 _ _ _ hP (lv_sub hl [0] rfl) hF
set_option maxHeartbeats 4000000 in
set_option maxRecDepth 100000 in
theorem w11_violations (l : Launch) (Γ : Wc) (ad : Nat → Nat → Nat) (A : Nat → Prop)  (σ : Sig) (r : Int32) (hF : f11_violations  σ = some r) : MI l SX Γ ad A yX11_violations cX11_violations 1 (some .int) 3 65 [.ref (ad 0 0)] σ r σ := by
  refine MI.of (by decide) (Nat.le_of_ble_eq_true rfl) ?_
  intro p e s m args below meth c ls cx hr hk hP hl
  have hl : lv_has ls 1 [(0, .ref (ad 0 0))] := hl
  rw [f11_violations] at hF
  refine r_aload_n cx dX11_violations_0 (lv_at hl 0 rfl) ?_
  refine gf11_12 cx hP dX11_violations_1 ?_
  obtain ⟨v1, hc, hF⟩ := bnd_some hF
  refine r_callVi cx hP (As := []) (w4_countWrongPasses l Γ ad A 8 (by decide : 8 < 11) σ v1 hc) mw11_343 ⟨Nat.le_of_ble_eq_true rfl, Nat.le_of_ble_eq_true rfl⟩ (dXg (by decide : 8 < 11) (by decide)) rfl rfl rfl (Nat.le_of_ble_eq_true rfl) hl.1 ⟨Nat.zero_le _, Nat.zero_le _⟩ dX11_violations_4 (fun H locs hP => ?_)
  refine r_aload_n cx dX11_violations_7 (lv_at hl 0 rfl) ?_
  refine gf11_12 cx hP dX11_violations_8 ?_
  refine gf11_104 cx hP (by decide : 8 < 11) dX11_violations_11 ?_
  obtain ⟨v2, hc, hF⟩ := bnd_some hF
  refine r_callVi cx hP (As := []) (w0_countWrong l Γ ad A 8 (by decide : 8 < 11) σ v2 hc) mw11_346 ⟨Nat.le_of_ble_eq_true rfl, Nat.le_of_ble_eq_true rfl⟩ (dXg (by decide : 8 < 11) (by decide)) rfl rfl rfl (Nat.le_of_ble_eq_true rfl) hl.1 ⟨Nat.zero_le _, Nat.zero_le _⟩ dX11_violations_14 (fun H locs hP => ?_)
  refine r_iadd cx dX11_violations_17 hF (fun v3 hF => ?_)
  refine r_aload_n cx dX11_violations_18 (lv_at hl 0 rfl) ?_
  refine gf11_12 cx hP dX11_violations_19 ?_
  obtain ⟨v4, hc, hF⟩ := bnd_some hF
  refine r_callVi cx hP (As := []) (w4_countWrongSums l Γ ad A 8 (by decide : 8 < 11) σ v4 hc) mw11_349 ⟨Nat.le_of_ble_eq_true rfl, Nat.le_of_ble_eq_true rfl⟩ (dXg (by decide : 8 < 11) (by decide)) rfl rfl rfl (Nat.le_of_ble_eq_true rfl) hl.1 ⟨Nat.zero_le _, Nat.zero_le _⟩ dX11_violations_22 (fun H locs hP => ?_)
  refine r_iadd cx dX11_violations_25 hF (fun v5 hF => ?_)
  exact r_iret cx hP hr hk dX11_violations_26 (prF hF)
set_option maxHeartbeats 4000000 in
set_option maxRecDepth 100000 in
theorem w6_fill (l : Launch) (Γ : Wc) (ad : Nat → Nat → Nat) (A : Nat → Prop) (k1 : Nat) (hk1 : k1 < strN) (σ : Sig) (σ1 : Sig) (hF : f6_fill k1 σ = some σ1) : MV l SX Γ ad A yX6_fill cX6_fill 3 4 86 [.ref (ad 0 4), .ref (Γ.2.2.1 k1)] σ σ1 := by
  refine MV.of (by decide) (Nat.le_of_ble_eq_true rfl) ?_
  intro p e s m args below meth c ls cx hr hk hP hl
  have hl : lv_has ls 3 [(0, .ref (ad 0 4)), (1, .ref (Γ.2.2.1 k1))] := hl
  rw [f6_fill] at hF
  generalize hH0 : s.heap = H0 at hP ⊢
  generalize ([] : List Loc) = locs0 at hP ⊢
  clear hH0
  have b16 : ∀ (fu : Nat) (x2 : Int32) (σ : Sig) (H : Heap) (locs : List Loc) (ls : Array Slot), PS SX Γ ad A s σ H locs → lv_has ls 3 [(0, .ref (ad 0 4)), (1, .ref (Γ.2.2.1 k1)), (2, .int x2)] → f6_fill_b16 k1 fu x2 σ = some σ1 → W p l e (rmz 4 86) s m args below meth c H locs 0 0 (QV SX Γ ad A below args s σ1) (F0 m 16 ls []) := by
    intro fu
    induction fu with
    | zero => intro x2 σ H locs ls hP hl hF; exact nofu hF
    | succ fu ih =>
      intro x2 σ H locs ls hP hl hF
      rw [f6_fill_b16] at hF
      refine r_iload_n cx dX6_fill_16 (lv_at hl 2 rfl) ?_
      refine r_aload_n cx dX6_fill_17 (lv_at hl 0 rfl) ?_
      refine gf6_27 cx hP dX6_fill_18 hF (fun v1 hF => ?_)
      refine r_icmp_ge cx 42 dX6_fill_21 (by decide) hF (fun hF => ?_) (fun hF => ?_)
      · exact r_vret cx hP hr hk dX6_fill_42 hF
      · refine r_aload_n cx dX6_fill_24 (lv_at hl 0 rfl) ?_
        refine gf6_9 cx hP dX6_fill_25 ?_
        refine r_iload_n cx dX6_fill_28 (lv_at hl 2 rfl) ?_
        refine r_aload_n cx dX6_fill_29 (lv_at hl 1 rfl) ?_
        refine r_iload_n cx dX6_fill_30 (lv_at hl 2 rfl) ?_
        refine r_charAt cx hP hk1 mw6_30 ⟨Nat.le_of_ble_eq_true rfl, Nat.le_of_ble_eq_true rfl⟩ rfl (Nat.le_of_ble_eq_true rfl) hl.1 ⟨Nat.zero_le _, Nat.zero_le _⟩ dX6_fill_31 hF (fun v2 H locs hP hF => ?_)
        refine r_i2b cx dX6_fill_34 hF (fun v3 hF => ?_)
        refine r_bast cx hP (dXr (by decide)) (fun _ => rfl) dX6_fill_35 hF (fun s4 H locs hP hF => ?_)
        refine r_iinc cx (k := 2) (w := 1) (fun v5 => [(2, .int v5), (0, .ref (ad 0 4)), (1, .ref (Γ.2.2.1 k1))]) dX6_fill_36 hl rfl (by decide) (by decide) hF (fun _ => rfl) (fun v5 ls hF hl => ?_)
        refine r_goto cx 16 dX6_fill_39 (by decide) ?_
        exact ih v5 s4 _ _ _ hP (lv_sub hl [1, 2, 0] rfl) hF
  refine r_aload_n cx dX6_fill_0 (lv_at hl 0 rfl) ?_
  refine r_sipush cx 500 dX6_fill_1 (by decide) ?_
  refine r_aload_n cx dX6_fill_4 (lv_at hl 1 rfl) ?_
  refine r_strlen cx hP hk1 mw6_15 ⟨Nat.le_of_ble_eq_true rfl, Nat.le_of_ble_eq_true rfl⟩ hl.1 (Nat.le_of_ble_eq_true rfl) ⟨Nat.zero_le _, Nat.zero_le _⟩ dX6_fill_5 hF (fun v6 H locs hP hF => ?_)
  refine r_mmin cx mw6_21 ⟨Nat.le_of_ble_eq_true rfl, Nat.le_of_ble_eq_true rfl⟩ ⟨Nat.zero_le _, Nat.zero_le _⟩ hl.1 dX6_fill_8 hF (fun v7 hF => ?_)
  refine pf6_27 cx hP dX6_fill_11 hF (fun s8 H locs hP hF => ?_)
  refine r_iconst cx 0 dX6_fill_14 (by decide) ?_
  refine r_istore_n cx [(2, .int 0), (0, .ref (ad 0 4)), (1, .ref (Γ.2.2.1 k1))] dX6_fill_15 hl (by decide) rfl (fun ls hl => ?_)
  exact b16 FU 0 s8 _ _ _ hP (lv_sub hl [1, 2, 0] rfl) hF
