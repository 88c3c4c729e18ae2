/-! printed: the walks -/
set_option maxHeartbeats 4000000 in
set_option maxRecDepth 100000 in
theorem w7_sumOfVisits (l : Launch) (Γ : Wc) (ad : Nat → Nat → Nat) (A : Nat → Prop) (n : Nat) (hn : n < 11) (σ : Sig) (r : Int32) (hF : f7_sumOfVisits n σ = some r) : MI l SX Γ ad A yX7_sumOfVisits cX7_sumOfVisits 3 (some .int) 0 0 [.ref (ad (n + 1) 4)] σ r σ := by
  refine MI.of (by decide) (Nat.le_of_ble_eq_true rfl) ?_
  intro p e s m args below meth c ls cx hr hk hP hl
  have hl : lv_has ls 3 [(0, .ref (ad (n + 1) 4))] := hl
  rw [f7_sumOfVisits] at hF
  generalize hH0 : s.heap = H0 at hP ⊢
  generalize ([] : List Loc) = locs0 at hP ⊢
  clear hH0
  have b4 : ∀ (fu : Nat) (x1 : Int32) (x2 : Int32) (H : Heap) (locs : List Loc) (ls : Array Slot), PS SX Γ ad A s σ H locs → lv_has ls 3 [(0, .ref (ad (n + 1) 4)), (1, .int x1), (2, .int x2)] → f7_sumOfVisits_b4 n fu x1 x2 σ = some r → W p l e (rmz 0 0) s m args below meth c H locs 0 0 (QI SX Γ ad A below args s r σ) (F0 m 4 ls []) := by
    intro fu
    induction fu with
    | zero => intro x1 x2 H locs ls hP hl hF; exact nofu hF
    | succ fu ih =>
      intro x1 x2 H locs ls hP hl hF
      rw [f7_sumOfVisits_b4] at hF
      refine r_iload_n cx dX7_sumOfVisits_4 (lv_at hl 2 rfl) ?_
      refine r_aload_n cx dX7_sumOfVisits_5 (lv_at hl 0 rfl) ?_
      refine gf7_49 cx hP hn dX7_sumOfVisits_6 hF (fun v1 hF => ?_)
      refine r_icmp_ge cx 27 dX7_sumOfVisits_9 (by decide) hF (fun hF => ?_) (fun hF => ?_)
      · refine r_iload_n cx dX7_sumOfVisits_27 (lv_at hl 1 rfl) ?_
        exact r_iret cx hP hr hk dX7_sumOfVisits_28 (prF hF)
      · refine r_iload_n cx dX7_sumOfVisits_12 (lv_at hl 1 rfl) ?_
        refine r_aload_n cx dX7_sumOfVisits_13 (lv_at hl 0 rfl) ?_
        refine gf7_37 cx hP hn dX7_sumOfVisits_14 ?_
        refine r_iload_n cx dX7_sumOfVisits_17 (lv_at hl 2 rfl) ?_
        refine r_iald cx hP (dXg hn (by decide)) rfl dX7_sumOfVisits_18 hF (fun v2 hF => ?_)
        refine r_iadd cx dX7_sumOfVisits_19 hF (fun v3 hF => ?_)
        refine r_istore_n cx [(1, .int v3), (0, .ref (ad (n + 1) 4)), (2, .int x2)] dX7_sumOfVisits_20 hl (by decide) rfl (fun ls hl => ?_)
        refine r_iinc cx (k := 2) (w := 1) (fun v4 => [(2, .int v4), (1, .int v3), (0, .ref (ad (n + 1) 4))]) dX7_sumOfVisits_21 hl rfl (by decide) (by decide) hF (fun _ => rfl) (fun v4 ls hF hl => ?_)
        refine r_goto cx 4 dX7_sumOfVisits_24 (by decide) ?_
        exact ih v3 v4 _ _ _ hP (lv_sub hl [2, 1, 0] rfl) hF
  refine r_iconst cx 0 dX7_sumOfVisits_0 (by decide) ?_
  refine r_istore_n cx [(1, .int 0), (0, .ref (ad (n + 1) 4))] dX7_sumOfVisits_1 hl (by decide) rfl (fun ls hl => ?_)
  refine r_iconst cx 0 dX7_sumOfVisits_2 (by decide) ?_
  refine r_istore_n cx [(2, .int 0), (1, .int 0), (0, .ref (ad (n + 1) 4))] dX7_sumOfVisits_3 hl (by decide) rfl (fun ls hl => ?_)
  exact b4 FU 0 0 _ _ _ hP (lv_sub hl [2, 1, 0] rfl) hF
set_option maxHeartbeats 4000000 in
set_option maxRecDepth 100000 in
theorem w11_visitsPerDay (l : Launch) (Γ : Wc) (ad : Nat → Nat → Nat) (A : Nat → Prop)  (σ : Sig) (r : UInt64) (hF : f11_visitsPerDay  σ = some r) : MD l SX Γ ad A yX11_visitsPerDay cX11_visitsPerDay 2 3 63 [.ref (ad 0 0)] σ r σ := by
  refine MD.of (by decide) (Nat.le_of_ble_eq_true rfl) ?_
  intro p e s m args below meth c ls cx hr hk hP hl
  have hl : lv_has ls 2 [(0, .ref (ad 0 0))] := hl
  rw [f11_visitsPerDay] at hF
  refine r_aload_n cx dX11_visitsPerDay_0 (lv_at hl 0 rfl) ?_
  refine gf11_12 cx hP dX11_visitsPerDay_1 ?_
  refine gf11_79 cx hP (by decide : 8 < 11) dX11_visitsPerDay_4 ?_
  obtain ⟨v1, hc, hF⟩ := bnd_some hF
  refine r_callVi cx hP (As := []) (w7_sumOfUsedDays l Γ ad A 8 (by decide : 8 < 11) σ v1 hc) mw11_334 ⟨Nat.le_of_ble_eq_true rfl, Nat.le_of_ble_eq_true rfl⟩ (dXg (by decide : 8 < 11) (by decide)) rfl rfl rfl (Nat.le_of_ble_eq_true rfl) hl.1 ⟨Nat.zero_le _, Nat.zero_le _⟩ dX11_visitsPerDay_7 (fun H locs hP => ?_)
  refine r_istore_n cx [(1, .int v1), (0, .ref (ad 0 0))] dX11_visitsPerDay_10 hl (by decide) rfl (fun ls hl => ?_)
  refine r_iload_n cx dX11_visitsPerDay_11 (lv_at hl 0 rfl) ?_
  refine r_if_ne cx 17 dX11_visitsPerDay_12 (by decide) hF (fun hF => ?_) (fun hF => ?_)
  · refine r_aload_n cx dX11_visitsPerDay_17 (lv_at hl 1 rfl) ?_
    refine gf11_12 cx hP dX11_visitsPerDay_18 ?_
    refine gf11_79 cx hP (by decide : 8 < 11) dX11_visitsPerDay_21 ?_
    obtain ⟨v2, hc, hF⟩ := bnd_some hF
    refine r_callVi cx hP (As := []) (w7_sumOfVisits l Γ ad A 8 (by decide : 8 < 11) σ v2 hc) mw11_337 ⟨Nat.le_of_ble_eq_true rfl, Nat.le_of_ble_eq_true rfl⟩ (dXg (by decide : 8 < 11) (by decide)) rfl rfl rfl (Nat.le_of_ble_eq_true rfl) hl.1 ⟨Nat.zero_le _, Nat.zero_le _⟩ dX11_visitsPerDay_24 (fun H locs hP => ?_)
    refine r_i2d cx dX11_visitsPerDay_27 hF (fun v3 hF => ?_)
    refine r_iload_n cx dX11_visitsPerDay_28 (lv_at hl 0 rfl) ?_
    refine r_i2d cx dX11_visitsPerDay_29 hF (fun v4 hF => ?_)
    refine r_ddiv cx dX11_visitsPerDay_30 hF (fun v5 hF => ?_)
    exact r_dret cx hP hr hk dX11_visitsPerDay_31 (prD hF)
  · refine r_dconst0 cx dX11_visitsPerDay_15 ?_
    exact r_dret cx hP hr hk dX11_visitsPerDay_16 (prD hF)
set_option maxHeartbeats 4000000 in
set_option maxRecDepth 100000 in
theorem w2_countBlocked (l : Launch) (Γ : Wc) (ad : Nat → Nat → Nat) (A : Nat → Prop) (n : Nat) (hn : n < 11) (σ : Sig) (r : Int32) (hF : f2_countBlocked n σ = some r) : MI l SX Γ ad A yX2_countBlocked cX2_countBlocked 3 (some .int) 0 0 [.ref (ad (n + 1) 5)] σ r σ := by
  refine MI.of (by decide) (Nat.le_of_ble_eq_true rfl) ?_
  intro p e s m args below meth c ls cx hr hk hP hl
  have hl : lv_has ls 3 [(0, .ref (ad (n + 1) 5))] := hl
  rw [f2_countBlocked] at hF
  generalize hH0 : s.heap = H0 at hP ⊢
  generalize ([] : List Loc) = locs0 at hP ⊢
  clear hH0
  have b24 : ∀ (rc : Int32 → Int32 → Sig → Option (Int32)) (ih : ∀ (x1 : Int32) (x2 : Int32) (H : Heap) (locs : List Loc) (ls : Array Slot), PS SX Γ ad A s σ H locs → lv_has ls 3 [(0, .ref (ad (n + 1) 5)), (1, .int x1), (2, .int x2)] → rc x1 x2 σ = some r → W p l e (rmz 0 0) s m args below meth c H locs 0 0 (QI SX Γ ad A below args s r σ) (F0 m 4 ls [])) (x1 : Int32) (x2 : Int32) (H : Heap) (locs : List Loc) (ls : Array Slot), PS SX Γ ad A s σ H locs → lv_has ls 3 [(0, .ref (ad (n + 1) 5)), (1, .int x1), (2, .int x2)] → f2_countBlocked_b24 n rc x1 x2 σ = some r → W p l e (rmz 0 0) s m args below meth c H locs 0 0 (QI SX Γ ad A below args s r σ) (F0 m 24 ls []) := by
    intro rc ih x1 x2 H locs ls hP hl hF
    rw [f2_countBlocked_b24] at hF
    refine r_iinc cx (k := 2) (w := 1) (fun v1 => [(2, .int v1), (0, .ref (ad (n + 1) 5)), (1, .int x1)]) dX2_countBlocked_24 hl rfl (by decide) (by decide) hF (fun _ => rfl) (fun v1 ls hF hl => ?_)
    refine r_goto cx 4 dX2_countBlocked_27 (by decide) ?_
    exact ih x1 v1 _ _ _ hP (lv_sub hl [1, 2, 0] rfl) hF
  have b4 : ∀ (fu : Nat) (x1 : Int32) (x2 : Int32) (H : Heap) (locs : List Loc) (ls : Array Slot), PS SX Γ ad A s σ H locs → lv_has ls 3 [(0, .ref (ad (n + 1) 5)), (1, .int x1), (2, .int x2)] → f2_countBlocked_b4 n fu x1 x2 σ = some r → W p l e (rmz 0 0) s m args below meth c H locs 0 0 (QI SX Γ ad A below args s r σ) (F0 m 4 ls []) := by
    intro fu
    induction fu with
    | zero => intro x1 x2 H locs ls hP hl hF; exact nofu hF
    | succ fu ih =>
      intro x1 x2 H locs ls hP hl hF
      rw [f2_countBlocked_b4] at hF
      refine r_iload_n cx dX2_countBlocked_4 (lv_at hl 2 rfl) ?_
      refine r_aload_n cx dX2_countBlocked_5 (lv_at hl 0 rfl) ?_
      refine gf2_19 cx hP hn dX2_countBlocked_6 hF (fun v2 hF => ?_)
      refine r_icmp_ge cx 30 dX2_countBlocked_9 (by decide) hF (fun hF => ?_) (fun hF => ?_)
      · refine r_iload_n cx dX2_countBlocked_30 (lv_at hl 1 rfl) ?_
        exact r_iret cx hP hr hk dX2_countBlocked_31 (prF hF)
      · refine r_aload_n cx dX2_countBlocked_12 (lv_at hl 0 rfl) ?_
        refine gf2_15 cx hP hn dX2_countBlocked_13 ?_
        refine r_iload_n cx dX2_countBlocked_16 (lv_at hl 2 rfl) ?_
        refine r_zald cx hP (dXg hn (by decide)) rfl dX2_countBlocked_17 hF (fun v3 hF => ?_)
        refine r_if_eq cx 24 dX2_countBlocked_18 (by decide) hF (fun hF => ?_) (fun hF => ?_)
        · exact b24 (f2_countBlocked_b4 n fu) ih x1 x2 _ _ _ hP (lv_sub hl [0, 1, 2] rfl) hF
        · refine r_iinc cx (k := 1) (w := 1) (fun v4 => [(1, .int v4), (0, .ref (ad (n + 1) 5)), (2, .int x2)]) dX2_countBlocked_21 hl rfl (by decide) (by decide) hF (fun _ => rfl) (fun v4 ls hF hl => ?_)
          exact b24 (f2_countBlocked_b4 n fu) ih v4 x2 _ _ _ hP (lv_sub hl [1, 0, 2] rfl) hF
  refine r_iconst cx 0 dX2_countBlocked_0 (by decide) ?_
  refine r_istore_n cx [(1, .int 0), (0, .ref (ad (n + 1) 5))] dX2_countBlocked_1 hl (by decide) rfl (fun ls hl => ?_)
  refine r_iconst cx 0 dX2_countBlocked_2 (by decide) ?_
  refine r_istore_n cx [(2, .int 0), (1, .int 0), (0, .ref (ad (n + 1) 5))] dX2_countBlocked_3 hl (by decide) rfl (fun ls hl => ?_)
  exact b4 FU 0 0 _ _ _ hP (lv_sub hl [2, 1, 0] rfl) hF
set_option maxHeartbeats 4000000 in
set_option maxRecDepth 100000 in
theorem w11_blockedShare (l : Launch) (Γ : Wc) (ad : Nat → Nat → Nat) (A : Nat → Prop)  (σ : Sig) (r : UInt32) (hF : f11_blockedShare  σ = some r) : MF l SX Γ ad A yX11_blockedShare cX11_blockedShare 1 1 22 [.ref (ad 0 0)] σ r σ := by
  refine MF.of (by decide) (Nat.le_of_ble_eq_true rfl) ?_
  intro p e s m args below meth c ls cx hr hk hP hl
  have hl : lv_has ls 1 [(0, .ref (ad 0 0))] := hl
  rw [f11_blockedShare] at hF
  refine r_aload_n cx dX11_blockedShare_0 (lv_at hl 0 rfl) ?_
  refine gf11_12 cx hP dX11_blockedShare_1 ?_
  refine gf11_287 cx hP (by decide : 8 < 11) dX11_blockedShare_4 ?_
  refine gf11_291 cx hP (by decide : 8 < 11) dX11_blockedShare_7 hF (fun v1 hF => ?_)
  refine r_if_ne cx 15 dX11_blockedShare_10 (by decide) hF (fun hF => ?_) (fun hF => ?_)
  · refine r_aload_n cx dX11_blockedShare_15 (lv_at hl 0 rfl) ?_
    refine gf11_12 cx hP dX11_blockedShare_16 ?_
    refine gf11_287 cx hP (by decide : 8 < 11) dX11_blockedShare_19 ?_
    obtain ⟨v2, hc, hF⟩ := bnd_some hF
    refine r_callVi cx hP (As := []) (w2_countBlocked l Γ ad A 8 (by decide : 8 < 11) σ v2 hc) mw11_340 ⟨Nat.le_of_ble_eq_true rfl, Nat.le_of_ble_eq_true rfl⟩ (dXg (by decide : 8 < 11) (by decide)) rfl rfl rfl (Nat.le_of_ble_eq_true rfl) hl.1 ⟨Nat.zero_le _, Nat.zero_le _⟩ dX11_blockedShare_22 (fun H locs hP => ?_)
    refine r_i2f cx dX11_blockedShare_25 hF (fun v3 hF => ?_)
    refine r_aload_n cx dX11_blockedShare_26 (lv_at hl 0 rfl) ?_
    refine gf11_12 cx hP dX11_blockedShare_27 ?_
    refine gf11_287 cx hP (by decide : 8 < 11) dX11_blockedShare_30 ?_
    refine gf11_291 cx hP (by decide : 8 < 11) dX11_blockedShare_33 hF (fun v4 hF => ?_)
    refine r_i2f cx dX11_blockedShare_36 hF (fun v5 hF => ?_)
    refine r_fdiv cx dX11_blockedShare_37 hF (fun v6 hF => ?_)
    exact r_fret cx hP hr hk dX11_blockedShare_38 (prD hF)
  · refine r_fconst0 cx dX11_blockedShare_13 ?_
    exact r_fret cx hP hr hk dX11_blockedShare_14 (prD hF)
set_option maxHeartbeats 4000000 in
set_option maxRecDepth 100000 in
theorem w2_isOpenCardOf (l : Launch) (Γ : Wc) (ad : Nat → Nat → Nat) (A : Nat → Prop) (n : Nat) (hn : n < 11) (p1 : Int32) (p2 : Int32) (σ : Sig) (r : Int32) (hF : f2_isOpenCardOf n p1 p2 σ = some r) : MI l SX Γ ad A yX2_isOpenCardOf cX2_isOpenCardOf 3 (some .boolean) 1 21 [.ref (ad (n + 1) 5), .int p1, .int p2] σ r σ := by
  refine MI.of (by decide) (Nat.le_of_ble_eq_true rfl) ?_
  intro p e s m args below meth c ls cx hr hk hP hl
  have hl : lv_has ls 3 [(0, .ref (ad (n + 1) 5)), (1, .int p1), (2, .int p2)] := hl
  rw [f2_isOpenCardOf] at hF
  refine r_aload_n cx dX2_isOpenCardOf_0 (lv_at hl 0 rfl) ?_
  refine r_iload_n cx dX2_isOpenCardOf_1 (lv_at hl 1 rfl) ?_
  obtain ⟨v1, hc, hF⟩ := bnd_some hF
  refine r_callVi cx hP (As := [.int p1]) (w2_has l Γ ad A n hn p1 σ v1 hc) mw2_29 ⟨Nat.le_of_ble_eq_true rfl, Nat.le_of_ble_eq_true rfl⟩ (dXg hn (by decide)) rfl rfl rfl (Nat.le_of_ble_eq_true rfl) hl.1 ⟨Nat.zero_le _, Nat.zero_le _⟩ dX2_isOpenCardOf_2 (fun H locs hP => ?_)
  refine r_if_eq cx 31 dX2_isOpenCardOf_5 (by decide) hF (fun hF => ?_) (fun hF => ?_)
  · refine r_iconst cx 0 dX2_isOpenCardOf_31 (by decide) ?_
    exact r_zret cx hP hr hk (by decide) dX2_isOpenCardOf_32 (prF hF)
  · refine r_aload_n cx dX2_isOpenCardOf_8 (lv_at hl 0 rfl) ?_
    refine gf2_15 cx hP hn dX2_isOpenCardOf_9 ?_
    refine r_iload_n cx dX2_isOpenCardOf_12 (lv_at hl 1 rfl) ?_
    refine r_zald cx hP (dXg hn (by decide)) rfl dX2_isOpenCardOf_13 hF (fun v2 hF => ?_)
    refine r_if_ne cx 31 dX2_isOpenCardOf_14 (by decide) hF (fun hF => ?_) (fun hF => ?_)
    · refine r_iconst cx 0 dX2_isOpenCardOf_31 (by decide) ?_
      exact r_zret cx hP hr hk (by decide) dX2_isOpenCardOf_32 (prF hF)
    · refine r_aload_n cx dX2_isOpenCardOf_17 (lv_at hl 0 rfl) ?_
      refine gf2_9 cx hP hn dX2_isOpenCardOf_18 ?_
      refine r_iload_n cx dX2_isOpenCardOf_21 (lv_at hl 1 rfl) ?_
      refine r_iald cx hP (dXg hn (by decide)) rfl dX2_isOpenCardOf_22 hF (fun v3 hF => ?_)
      refine r_iload_n cx dX2_isOpenCardOf_23 (lv_at hl 2 rfl) ?_
      refine r_icmp_ne cx 31 dX2_isOpenCardOf_24 (by decide) hF (fun hF => ?_) (fun hF => ?_)
      · refine r_iconst cx 0 dX2_isOpenCardOf_31 (by decide) ?_
        exact r_zret cx hP hr hk (by decide) dX2_isOpenCardOf_32 (prF hF)
      · refine r_iconst cx 1 dX2_isOpenCardOf_27 (by decide) ?_
        refine r_goto cx 32 dX2_isOpenCardOf_28 (by decide) ?_
        exact r_zret cx hP hr hk (by decide) dX2_isOpenCardOf_32 (prF hF)
set_option maxHeartbeats 4000000 in
set_option maxRecDepth 100000 in
theorem w4_countWrongPasses (l : Launch) (Γ : Wc) (ad : Nat → Nat → Nat) (A : Nat → Prop) (n : Nat) (hn : n < 11) (σ : Sig) (r : Int32) (hF : f4_countWrongPasses n σ = some r) : MI l SX Γ ad A yX4_countWrongPasses cX4_countWrongPasses 3 (some .int) 2 43 [.ref (ad (n + 1) 0)] σ r σ := by
  refine MI.of (by decide) (Nat.le_of_ble_eq_true rfl) ?_
  intro p e s m args below meth c ls cx hr hk hP hl
  have hl : lv_has ls 3 [(0, .ref (ad (n + 1) 0))] := hl
  rw [f4_countWrongPasses] at hF
  generalize hH0 : s.heap = H0 at hP ⊢
  generalize ([] : List Loc) = locs0 at hP ⊢
  clear hH0
  have b98 : ∀ (rc : Int32 → Int32 → Sig → Option (Int32)) (ih : ∀ (x1 : Int32) (x2 : Int32) (H : Heap) (locs : List Loc) (ls : Array Slot), PS SX Γ ad A s σ H locs → lv_has ls 3 [(0, .ref (ad (n + 1) 0)), (1, .int x1), (2, .int x2)] → rc x1 x2 σ = some r → W p l e (rmz 2 43) s m args below meth c H locs 0 0 (QI SX Γ ad A below args s r σ) (F0 m 4 ls [])) (x1 : Int32) (x2 : Int32) (H : Heap) (locs : List Loc) (ls : Array Slot), PS SX Γ ad A s σ H locs → lv_has ls 3 [(0, .ref (ad (n + 1) 0)), (1, .int x1), (2, .int x2)] → f4_countWrongPasses_b98 n rc x1 x2 σ = some r → W p l e (rmz 2 43) s m args below meth c H locs 0 0 (QI SX Γ ad A below args s r σ) (F0 m 98 ls []) := by
    intro rc ih x1 x2 H locs ls hP hl hF
    rw [f4_countWrongPasses_b98] at hF
    refine r_iinc cx (k := 2) (w := 1) (fun v1 => [(2, .int v1), (0, .ref (ad (n + 1) 0)), (1, .int x1)]) dX4_countWrongPasses_98 hl rfl (by decide) (by decide) hF (fun _ => rfl) (fun v1 ls hF hl => ?_)
    refine r_goto cx 4 dX4_countWrongPasses_101 (by decide) ?_
    exact ih x1 v1 _ _ _ hP (lv_sub hl [1, 2, 0] rfl) hF
  have b72 : ∀ (rc : Int32 → Int32 → Sig → Option (Int32)) (ih : ∀ (x1 : Int32) (x2 : Int32) (H : Heap) (locs : List Loc) (ls : Array Slot), PS SX Γ ad A s σ H locs → lv_has ls 3 [(0, .ref (ad (n + 1) 0)), (1, .int x1), (2, .int x2)] → rc x1 x2 σ = some r → W p l e (rmz 2 43) s m args below meth c H locs 0 0 (QI SX Γ ad A below args s r σ) (F0 m 4 ls [])) (x1 : Int32) (x2 : Int32) (H : Heap) (locs : List Loc) (ls : Array Slot), PS SX Γ ad A s σ H locs → lv_has ls 3 [(0, .ref (ad (n + 1) 0)), (1, .int x1), (2, .int x2)] → f4_countWrongPasses_b72 n rc x1 x2 σ = some r → W p l e (rmz 2 43) s m args below meth c H locs 0 0 (QI SX Γ ad A below args s r σ) (F0 m 72 ls []) := by
    intro rc ih x1 x2 H locs ls hP hl hF
    rw [f4_countWrongPasses_b72] at hF
    refine r_aload_n cx dX4_countWrongPasses_72 (lv_at hl 0 rfl) ?_
    refine gf4_35 cx hP hn dX4_countWrongPasses_73 ?_
    refine r_iload_n cx dX4_countWrongPasses_76 (lv_at hl 2 rfl) ?_
    obtain ⟨v2, hc, hF⟩ := bnd_some hF
    refine r_callVi cx hP (As := [.int x2]) (w7_hasCard l Γ ad A n hn x2 σ v2 hc) mw4_155 ⟨Nat.le_of_ble_eq_true rfl, Nat.le_of_ble_eq_true rfl⟩ (dXg hn (by decide)) rfl rfl rfl (Nat.le_of_ble_eq_true rfl) hl.1 ⟨Nat.zero_le _, Nat.zero_le _⟩ dX4_countWrongPasses_77 (fun H locs hP => ?_)
    refine r_if_eq cx 98 dX4_countWrongPasses_80 (by decide) hF (fun hF => ?_) (fun hF => ?_)
    · exact b98 rc ih x1 x2 _ _ _ hP (lv_sub hl [0, 1, 2] rfl) hF
    · refine r_aload_n cx dX4_countWrongPasses_83 (lv_at hl 0 rfl) ?_
      refine gf4_35 cx hP hn dX4_countWrongPasses_84 ?_
      refine gf4_123 cx hP hn dX4_countWrongPasses_87 ?_
      refine r_iload_n cx dX4_countWrongPasses_90 (lv_at hl 2 rfl) ?_
      refine r_zald cx hP (dXg hn (by decide)) rfl dX4_countWrongPasses_91 hF (fun v3 hF => ?_)
      refine r_if_eq cx 98 dX4_countWrongPasses_92 (by decide) hF (fun hF => ?_) (fun hF => ?_)
      · exact b98 rc ih x1 x2 _ _ _ hP (lv_sub hl [0, 1, 2] rfl) hF
      · refine r_iinc cx (k := 1) (w := 1) (fun v4 => [(1, .int v4), (0, .ref (ad (n + 1) 0)), (2, .int x2)]) dX4_countWrongPasses_95 hl rfl (by decide) (by decide) hF (fun _ => rfl) (fun v4 ls hF hl => ?_)
        exact b98 rc ih v4 x2 _ _ _ hP (lv_sub hl [1, 0, 2] rfl) hF
  have b38 : ∀ (rc : Int32 → Int32 → Sig → Option (Int32)) (ih : ∀ (x1 : Int32) (x2 : Int32) (H : Heap) (locs : List Loc) (ls : Array Slot), PS SX Γ ad A s σ H locs → lv_has ls 3 [(0, .ref (ad (n + 1) 0)), (1, .int x1), (2, .int x2)] → rc x1 x2 σ = some r → W p l e (rmz 2 43) s m args below meth c H locs 0 0 (QI SX Γ ad A below args s r σ) (F0 m 4 ls [])) (x1 : Int32) (x2 : Int32) (H : Heap) (locs : List Loc) (ls : Array Slot), PS SX Γ ad A s σ H locs → lv_has ls 3 [(0, .ref (ad (n + 1) 0)), (1, .int x1), (2, .int x2)] → f4_countWrongPasses_b38 n rc x1 x2 σ = some r → W p l e (rmz 2 43) s m args below meth c H locs 0 0 (QI SX Γ ad A below args s r σ) (F0 m 38 ls []) := by
    intro rc ih x1 x2 H locs ls hP hl hF
    rw [f4_countWrongPasses_b38] at hF
    refine r_aload_n cx dX4_countWrongPasses_38 (lv_at hl 0 rfl) ?_
    refine gf4_35 cx hP hn dX4_countWrongPasses_39 ?_
    refine r_iload_n cx dX4_countWrongPasses_42 (lv_at hl 2 rfl) ?_
    obtain ⟨v5, hc, hF⟩ := bnd_some hF
    refine r_callVi cx hP (As := [.int x2]) (w7_hasCard l Γ ad A n hn x2 σ v5 hc) mw4_155 ⟨Nat.le_of_ble_eq_true rfl, Nat.le_of_ble_eq_true rfl⟩ (dXg hn (by decide)) rfl rfl rfl (Nat.le_of_ble_eq_true rfl) hl.1 ⟨Nat.zero_le _, Nat.zero_le _⟩ dX4_countWrongPasses_43 (fun H locs hP => ?_)
    refine r_if_eq cx 72 dX4_countWrongPasses_46 (by decide) hF (fun hF => ?_) (fun hF => ?_)
    · exact b72 rc ih x1 x2 _ _ _ hP (lv_sub hl [0, 1, 2] rfl) hF
    · refine r_aload_n cx dX4_countWrongPasses_49 (lv_at hl 0 rfl) ?_
      refine gf4_42 cx hP hn dX4_countWrongPasses_50 ?_
      refine r_aload_n cx dX4_countWrongPasses_53 (lv_at hl 0 rfl) ?_
      refine gf4_35 cx hP hn dX4_countWrongPasses_54 ?_
      refine gf4_113 cx hP hn dX4_countWrongPasses_57 ?_
      refine r_iload_n cx dX4_countWrongPasses_60 (lv_at hl 2 rfl) ?_
      refine r_iald cx hP (dXg hn (by decide)) rfl dX4_countWrongPasses_61 hF (fun v6 hF => ?_)
      refine r_iload_n cx dX4_countWrongPasses_62 (lv_at hl 2 rfl) ?_
      obtain ⟨v7, hc, hF⟩ := bnd_some hF
      refine r_callVi cx hP (As := [.int v6, .int x2]) (w2_isOpenCardOf l Γ ad A n hn v6 x2 σ v7 hc) mw4_248 ⟨Nat.le_of_ble_eq_true rfl, Nat.le_of_ble_eq_true rfl⟩ (dXg hn (by decide)) rfl rfl rfl (Nat.le_of_ble_eq_true rfl) hl.1 ⟨Nat.zero_le _, Nat.zero_le _⟩ dX4_countWrongPasses_63 (fun H locs hP => ?_)
      refine r_if_ne cx 72 dX4_countWrongPasses_66 (by decide) hF (fun hF => ?_) (fun hF => ?_)
      · exact b72 rc ih x1 x2 _ _ _ hP (lv_sub hl [0, 1, 2] rfl) hF
      · refine r_iinc cx (k := 1) (w := 1) (fun v8 => [(1, .int v8), (0, .ref (ad (n + 1) 0)), (2, .int x2)]) dX4_countWrongPasses_69 hl rfl (by decide) (by decide) hF (fun _ => rfl) (fun v8 ls hF hl => ?_)
        exact b72 rc ih v8 x2 _ _ _ hP (lv_sub hl [1, 0, 2] rfl) hF
  have b4 : ∀ (fu : Nat) (x1 : Int32) (x2 : Int32) (H : Heap) (locs : List Loc) (ls : Array Slot), PS SX Γ ad A s σ H locs → lv_has ls 3 [(0, .ref (ad (n + 1) 0)), (1, .int x1), (2, .int x2)] → f4_countWrongPasses_b4 n fu x1 x2 σ = some r → W p l e (rmz 2 43) s m args below meth c H locs 0 0 (QI SX Γ ad A below args s r σ) (F0 m 4 ls []) := by
    intro fu
    induction fu with
    | zero => intro x1 x2 H locs ls hP hl hF; exact nofu hF
    | succ fu ih =>
      intro x1 x2 H locs ls hP hl hF
      rw [f4_countWrongPasses_b4] at hF
      refine r_iload_n cx dX4_countWrongPasses_4 (lv_at hl 2 rfl) ?_
      refine r_aload_n cx dX4_countWrongPasses_5 (lv_at hl 0 rfl) ?_
      refine gf4_35 cx hP hn dX4_countWrongPasses_6 ?_
      refine gf4_61 cx hP hn dX4_countWrongPasses_9 hF (fun v9 hF => ?_)
      refine r_icmp_ge cx 104 dX4_countWrongPasses_12 (by decide) hF (fun hF => ?_) (fun hF => ?_)
      · refine r_iload_n cx dX4_countWrongPasses_104 (lv_at hl 1 rfl) ?_
        exact r_iret cx hP hr hk dX4_countWrongPasses_105 (prF hF)
      · refine r_aload_n cx dX4_countWrongPasses_15 (lv_at hl 0 rfl) ?_
        refine gf4_35 cx hP hn dX4_countWrongPasses_16 ?_
        refine r_iload_n cx dX4_countWrongPasses_19 (lv_at hl 2 rfl) ?_
        obtain ⟨v10, hc, hF⟩ := bnd_some hF
        refine r_callVi cx hP (As := [.int x2]) (w7_countUsedDays l Γ ad A n hn x2 σ v10 hc) mw4_245 ⟨Nat.le_of_ble_eq_true rfl, Nat.le_of_ble_eq_true rfl⟩ (dXg hn (by decide)) rfl rfl rfl (Nat.le_of_ble_eq_true rfl) hl.1 ⟨Nat.zero_le _, Nat.zero_le _⟩ dX4_countWrongPasses_20 (fun H locs hP => ?_)
        refine r_aload_n cx dX4_countWrongPasses_23 (lv_at hl 0 rfl) ?_
        refine gf4_35 cx hP hn dX4_countWrongPasses_24 ?_
        refine gf4_133 cx hP hn dX4_countWrongPasses_27 ?_
        refine r_iload_n cx dX4_countWrongPasses_30 (lv_at hl 2 rfl) ?_
        refine r_iald cx hP (dXg hn (by decide)) rfl dX4_countWrongPasses_31 hF (fun v11 hF => ?_)
        refine r_icmp_le cx 38 dX4_countWrongPasses_32 (by decide) hF (fun hF => ?_) (fun hF => ?_)
        · exact b38 (f4_countWrongPasses_b4 n fu) ih x1 x2 _ _ _ hP (lv_sub hl [0, 1, 2] rfl) hF
        · refine r_iinc cx (k := 1) (w := 1) (fun v12 => [(1, .int v12), (0, .ref (ad (n + 1) 0)), (2, .int x2)]) dX4_countWrongPasses_35 hl rfl (by decide) (by decide) hF (fun _ => rfl) (fun v12 ls hF hl => ?_)
          exact b38 (f4_countWrongPasses_b4 n fu) ih v12 x2 _ _ _ hP (lv_sub hl [1, 0, 2] rfl) hF
  refine r_iconst cx 0 dX4_countWrongPasses_0 (by decide) ?_
  refine r_istore_n cx [(1, .int 0), (0, .ref (ad (n + 1) 0))] dX4_countWrongPasses_1 hl (by decide) rfl (fun ls hl => ?_)
  refine r_iconst cx 0 dX4_countWrongPasses_2 (by decide) ?_
  refine r_istore_n cx [(2, .int 0), (1, .int 0), (0, .ref (ad (n + 1) 0))] dX4_countWrongPasses_3 hl (by decide) rfl (fun ls hl => ?_)
  exact b4 FU 0 0 _ _ _ hP (lv_sub hl [2, 1, 0] rfl) hF
set_option maxHeartbeats 4000000 in
set_option maxRecDepth 100000 in
theorem w0_countWrong (l : Launch) (Γ : Wc) (ad : Nat → Nat → Nat) (A : Nat → Prop) (n : Nat) (hn : n < 11) (σ : Sig) (r : Int32) (hF : f0_countWrong n σ = some r) : MI l SX Γ ad A yX0_countWrong cX0_countWrong 3 (some .int) 1 21 [.ref (ad (n + 1) 3)] σ r σ := by
  refine MI.of (by decide) (Nat.le_of_ble_eq_true rfl) ?_
  intro p e s m args below meth c ls cx hr hk hP hl
  have hl : lv_has ls 3 [(0, .ref (ad (n + 1) 3))] := hl
  rw [f0_countWrong] at hF
  generalize hH0 : s.heap = H0 at hP ⊢
  generalize ([] : List Loc) = locs0 at hP ⊢
  clear hH0
  have b43 : ∀ (rc : Int32 → Int32 → Sig → Option (Int32)) (ih : ∀ (x1 : Int32) (x2 : Int32) (H : Heap) (locs : List Loc) (ls : Array Slot), PS SX Γ ad A s σ H locs → lv_has ls 3 [(0, .ref (ad (n + 1) 3)), (1, .int x1), (2, .int x2)] → rc x1 x2 σ = some r → W p l e (rmz 1 21) s m args below meth c H locs 0 0 (QI SX Γ ad A below args s r σ) (F0 m 4 ls [])) (x1 : Int32) (x2 : Int32) (H : Heap) (locs : List Loc) (ls : Array Slot), PS SX Γ ad A s σ H locs → lv_has ls 3 [(0, .ref (ad (n + 1) 3)), (1, .int x1), (2, .int x2)] → f0_countWrong_b43 n rc x1 x2 σ = some r → W p l e (rmz 1 21) s m args below meth c H locs 0 0 (QI SX Γ ad A below args s r σ) (F0 m 43 ls []) := by
    intro rc ih x1 x2 H locs ls hP hl hF
    rw [f0_countWrong_b43] at hF
    refine r_iinc cx (k := 2) (w := 1) (fun v1 => [(2, .int v1), (0, .ref (ad (n + 1) 3)), (1, .int x1)]) dX0_countWrong_43 hl rfl (by decide) (by decide) hF (fun _ => rfl) (fun v1 ls hF hl => ?_)
    refine r_goto cx 4 dX0_countWrong_46 (by decide) ?_
    exact ih x1 v1 _ _ _ hP (lv_sub hl [1, 2, 0] rfl) hF
  have b40 : ∀ (rc : Int32 → Int32 → Sig → Option (Int32)) (ih : ∀ (x1 : Int32) (x2 : Int32) (H : Heap) (locs : List Loc) (ls : Array Slot), PS SX Γ ad A s σ H locs → lv_has ls 3 [(0, .ref (ad (n + 1) 3)), (1, .int x1), (2, .int x2)] → rc x1 x2 σ = some r → W p l e (rmz 1 21) s m args below meth c H locs 0 0 (QI SX Γ ad A below args s r σ) (F0 m 4 ls [])) (x1 : Int32) (x2 : Int32) (H : Heap) (locs : List Loc) (ls : Array Slot), PS SX Γ ad A s σ H locs → lv_has ls 3 [(0, .ref (ad (n + 1) 3)), (1, .int x1), (2, .int x2)] → f0_countWrong_b40 n rc x1 x2 σ = some r → W p l e (rmz 1 21) s m args below meth c H locs 0 0 (QI SX Γ ad A below args s r σ) (F0 m 40 ls []) := by
    intro rc ih x1 x2 H locs ls hP hl hF
    rw [f0_countWrong_b40] at hF
    refine r_iinc cx (k := 1) (w := 1) (fun v2 => [(1, .int v2), (0, .ref (ad (n + 1) 3)), (2, .int x2)]) dX0_countWrong_40 hl rfl (by decide) (by decide) hF (fun _ => rfl) (fun v2 ls hF hl => ?_)
    exact b43 rc ih v2 x2 _ _ _ hP (lv_sub hl [1, 0, 2] rfl) hF
  have b4 : ∀ (fu : Nat) (x1 : Int32) (x2 : Int32) (H : Heap) (locs : List Loc) (ls : Array Slot), PS SX Γ ad A s σ H locs → lv_has ls 3 [(0, .ref (ad (n + 1) 3)), (1, .int x1), (2, .int x2)] → f0_countWrong_b4 n fu x1 x2 σ = some r → W p l e (rmz 1 21) s m args below meth c H locs 0 0 (QI SX Γ ad A below args s r σ) (F0 m 4 ls []) := by
    intro fu
    induction fu with
    | zero => intro x1 x2 H locs ls hP hl hF; exact nofu hF
    | succ fu ih =>
      intro x1 x2 H locs ls hP hl hF
      rw [f0_countWrong_b4] at hF
      refine r_iload_n cx dX0_countWrong_4 (lv_at hl 2 rfl) ?_
      refine r_aload_n cx dX0_countWrong_5 (lv_at hl 0 rfl) ?_
      refine gf0_33 cx hP hn dX0_countWrong_6 hF (fun v3 hF => ?_)
      refine r_icmp_ge cx 49 dX0_countWrong_9 (by decide) hF (fun hF => ?_) (fun hF => ?_)
      · refine r_iload_n cx dX0_countWrong_49 (lv_at hl 1 rfl) ?_
        exact r_iret cx hP hr hk dX0_countWrong_50 (prF hF)
      · refine r_aload_n cx dX0_countWrong_12 (lv_at hl 0 rfl) ?_
        refine r_iload_n cx dX0_countWrong_13 (lv_at hl 2 rfl) ?_
        obtain ⟨v4, hc, hF⟩ := bnd_some hF
        refine r_callVi cx hP (As := [.int x2]) (w0_freePlaces l Γ ad A n hn x2 σ v4 hc) mw0_53 ⟨Nat.le_of_ble_eq_true rfl, Nat.le_of_ble_eq_true rfl⟩ (dXg hn (by decide)) rfl rfl rfl (Nat.le_of_ble_eq_true rfl) hl.1 ⟨Nat.zero_le _, Nat.zero_le _⟩ dX0_countWrong_14 (fun H locs hP => ?_)
        refine r_if_lt cx 40 dX0_countWrong_17 (by decide) hF (fun hF => ?_) (fun hF => ?_)
        · exact b40 (f0_countWrong_b4 n fu) ih x1 x2 _ _ _ hP (lv_sub hl [0, 1, 2] rfl) hF
        · refine r_aload_n cx dX0_countWrong_20 (lv_at hl 0 rfl) ?_
          refine gf0_24 cx hP hn dX0_countWrong_21 ?_
          refine r_iload_n cx dX0_countWrong_24 (lv_at hl 2 rfl) ?_
          refine r_iald cx hP (dXg hn (by decide)) rfl dX0_countWrong_25 hF (fun v5 hF => ?_)
          refine r_if_lt cx 40 dX0_countWrong_26 (by decide) hF (fun hF => ?_) (fun hF => ?_)
          · exact b40 (f0_countWrong_b4 n fu) ih x1 x2 _ _ _ hP (lv_sub hl [0, 1, 2] rfl) hF
          · refine r_aload_n cx dX0_countWrong_29 (lv_at hl 0 rfl) ?_
            refine gf0_24 cx hP hn dX0_countWrong_30 ?_
            refine r_iload_n cx dX0_countWrong_33 (lv_at hl 2 rfl) ?_
            refine r_iald cx hP (dXg hn (by decide)) rfl dX0_countWrong_34 hF (fun v6 hF => ?_)
            refine r_bipush cx 50 dX0_countWrong_35 (by decide) ?_
            refine r_icmp_le cx 43 dX0_countWrong_37 (by decide) hF (fun hF => ?_) (fun hF => ?_)
            · exact b43 (f0_countWrong_b4 n fu) ih x1 x2 _ _ _ hP (lv_sub hl [0, 1, 2] rfl) hF
            · exact b40 (f0_countWrong_b4 n fu) ih x1 x2 _ _ _ hP (lv_sub hl [0, 1, 2] rfl) hF
  refine r_iconst cx 0 dX0_countWrong_0 (by decide) ?_
  refine r_istore_n cx [(1, .int 0), (0, .ref (ad (n + 1) 3))] dX0_countWrong_1 hl (by decide) rfl (fun ls hl => ?_)
  refine r_iconst cx 0 dX0_countWrong_2 (by decide) ?_
  refine r_istore_n cx [(2, .int 0), (1, .int 0), (0, .ref (ad (n + 1) 3))] dX0_countWrong_3 hl (by decide) rfl (fun ls hl => ?_)
  exact b4 FU 0 0 _ _ _ hP (lv_sub hl [2, 1, 0] rfl) hF
set_option maxHeartbeats 4000000 in
set_option maxRecDepth 100000 in
theorem w0_sumOfVisits (l : Launch) (Γ : Wc) (ad : Nat → Nat → Nat) (A : Nat → Prop) (n : Nat) (hn : n < 11) (σ : Sig) (r : Int32) (hF : f0_sumOfVisits n σ = some r) : MI l SX Γ ad A yX0_sumOfVisits cX0_sumOfVisits 3 (some .int) 0 0 [.ref (ad (n + 1) 3)] σ r σ := by
  refine MI.of (by decide) (Nat.le_of_ble_eq_true rfl) ?_
  intro p e s m args below meth c ls cx hr hk hP hl
  have hl : lv_has ls 3 [(0, .ref (ad (n + 1) 3))] := hl
  rw [f0_sumOfVisits] at hF
  generalize hH0 : s.heap = H0 at hP ⊢
  generalize ([] : List Loc) = locs0 at hP ⊢
  clear hH0
  have b4 : ∀ (fu : Nat) (x1 : Int32) (x2 : Int32) (H : Heap) (locs : List Loc) (ls : Array Slot), PS SX Γ ad A s σ H locs → lv_has ls 3 [(0, .ref (ad (n + 1) 3)), (1, .int x1), (2, .int x2)] → f0_sumOfVisits_b4 n fu x1 x2 σ = some r → W p l e (rmz 0 0) s m args below meth c H locs 0 0 (QI SX Γ ad A below args s r σ) (F0 m 4 ls []) := by
    intro fu
    induction fu with
    | zero => intro x1 x2 H locs ls hP hl hF; exact nofu hF
    | succ fu ih =>
      intro x1 x2 H locs ls hP hl hF
      rw [f0_sumOfVisits_b4] at hF
      refine r_iload_n cx dX0_sumOfVisits_4 (lv_at hl 2 rfl) ?_
      refine r_aload_n cx dX0_sumOfVisits_5 (lv_at hl 0 rfl) ?_
      refine gf0_33 cx hP hn dX0_sumOfVisits_6 hF (fun v1 hF => ?_)
      refine r_icmp_ge cx 27 dX0_sumOfVisits_9 (by decide) hF (fun hF => ?_) (fun hF => ?_)
      · refine r_iload_n cx dX0_sumOfVisits_27 (lv_at hl 1 rfl) ?_
        exact r_iret cx hP hr hk dX0_sumOfVisits_28 (prF hF)
      · refine r_iload_n cx dX0_sumOfVisits_12 (lv_at hl 1 rfl) ?_
        refine r_aload_n cx dX0_sumOfVisits_13 (lv_at hl 0 rfl) ?_
        refine gf0_27 cx hP hn dX0_sumOfVisits_14 ?_
        refine r_iload_n cx dX0_sumOfVisits_17 (lv_at hl 2 rfl) ?_
        refine r_iald cx hP (dXg hn (by decide)) rfl dX0_sumOfVisits_18 hF (fun v2 hF => ?_)
        refine r_iadd cx dX0_sumOfVisits_19 hF (fun v3 hF => ?_)
        refine r_istore_n cx [(1, .int v3), (0, .ref (ad (n + 1) 3)), (2, .int x2)] dX0_sumOfVisits_20 hl (by decide) rfl (fun ls hl => ?_)
        refine r_iinc cx (k := 2) (w := 1) (fun v4 => [(2, .int v4), (1, .int v3), (0, .ref (ad (n + 1) 3))]) dX0_sumOfVisits_21 hl rfl (by decide) (by decide) hF (fun _ => rfl) (fun v4 ls hF hl => ?_)
        refine r_goto cx 4 dX0_sumOfVisits_24 (by decide) ?_
        exact ih v3 v4 _ _ _ hP (lv_sub hl [2, 1, 0] rfl) hF
  refine r_iconst cx 0 dX0_sumOfVisits_0 (by decide) ?_
  refine r_istore_n cx [(1, .int 0), (0, .ref (ad (n + 1) 3))] dX0_sumOfVisits_1 hl (by decide) rfl (fun ls hl => ?_)
  refine r_iconst cx 0 dX0_sumOfVisits_2 (by decide) ?_
  refine r_istore_n cx [(2, .int 0), (1, .int 0), (0, .ref (ad (n + 1) 3))] dX0_sumOfVisits_3 hl (by decide) rfl (fun ls hl => ?_)
  exact b4 FU 0 0 _ _ _ hP (lv_sub hl [2, 1, 0] rfl) hF
set_option maxHeartbeats 4000000 in
set_option maxRecDepth 100000 in
theorem w7_sumOfOwed (l : Launch) (Γ : Wc) (ad : Nat → Nat → Nat) (A : Nat → Prop) (n : Nat) (hn : n < 11) (σ : Sig) (r : Int32) (hF : f7_sumOfOwed n σ = some r) : MI l SX Γ ad A yX7_sumOfOwed cX7_sumOfOwed 3 (some .int) 0 0 [.ref (ad (n + 1) 4)] σ r σ := by
  refine MI.of (by decide) (Nat.le_of_ble_eq_true rfl) ?_
  intro p e s m args below meth c ls cx hr hk hP hl
  have hl : lv_has ls 3 [(0, .ref (ad (n + 1) 4))] := hl
  rw [f7_sumOfOwed] at hF
  generalize hH0 : s.heap = H0 at hP ⊢
  generalize ([] : List Loc) = locs0 at hP ⊢
  clear hH0
  have b4 : ∀ (fu : Nat) (x1 : Int32) (x2 : Int32) (H : Heap) (locs : List Loc) (ls : Array Slot), PS SX Γ ad A s σ H locs → lv_has ls 3 [(0, .ref (ad (n + 1) 4)), (1, .int x1), (2, .int x2)] → f7_sumOfOwed_b4 n fu x1 x2 σ = some r → W p l e (rmz 0 0) s m args below meth c H locs 0 0 (QI SX Γ ad A below args s r σ) (F0 m 4 ls []) := by
    intro fu
    induction fu with
    | zero => intro x1 x2 H locs ls hP hl hF; exact nofu hF
    | succ fu ih =>
      intro x1 x2 H locs ls hP hl hF
      rw [f7_sumOfOwed_b4] at hF
      refine r_iload_n cx dX7_sumOfOwed_4 (lv_at hl 2 rfl) ?_
      refine r_aload_n cx dX7_sumOfOwed_5 (lv_at hl 0 rfl) ?_
      refine gf7_49 cx hP hn dX7_sumOfOwed_6 hF (fun v1 hF => ?_)
      refine r_icmp_ge cx 27 dX7_sumOfOwed_9 (by decide) hF (fun hF => ?_) (fun hF => ?_)
      · refine r_iload_n cx dX7_sumOfOwed_27 (lv_at hl 1 rfl) ?_
        exact r_iret cx hP hr hk dX7_sumOfOwed_28 (prF hF)
      · refine r_iload_n cx dX7_sumOfOwed_12 (lv_at hl 1 rfl) ?_
        refine r_aload_n cx dX7_sumOfOwed_13 (lv_at hl 0 rfl) ?_
        refine gf7_46 cx hP hn dX7_sumOfOwed_14 ?_
        refine r_iload_n cx dX7_sumOfOwed_17 (lv_at hl 2 rfl) ?_
        refine r_iald cx hP (dXg hn (by decide)) rfl dX7_sumOfOwed_18 hF (fun v2 hF => ?_)
        refine r_iadd cx dX7_sumOfOwed_19 hF (fun v3 hF => ?_)
        refine r_istore_n cx [(1, .int v3), (0, .ref (ad (n + 1) 4)), (2, .int x2)] dX7_sumOfOwed_20 hl (by decide) rfl (fun ls hl => ?_)
        refine r_iinc cx (k := 2) (w := 1) (fun v4 => [(2, .int v4), (1, .int v3), (0, .ref (ad (n + 1) 4))]) dX7_sumOfOwed_21 hl rfl (by decide) (by decide) hF (fun _ => rfl) (fun v4 ls hF hl => ?_)
        refine r_goto cx 4 dX7_sumOfOwed_24 (by decide) ?_
        exact ih v3 v4 _ _ _ hP (lv_sub hl [2, 1, 0] rfl) hF
  refine r_iconst cx 0 dX7_sumOfOwed_0 (by decide) ?_
  refine r_istore_n cx [(1, .int 0), (0, .ref (ad (n + 1) 4))] dX7_sumOfOwed_1 hl (by decide) rfl (fun ls hl => ?_)
  refine r_iconst cx 0 dX7_sumOfOwed_2 (by decide) ?_
  refine r_istore_n cx [(2, .int 0), (1, .int 0), (0, .ref (ad (n + 1) 4))] dX7_sumOfOwed_3 hl (by decide) rfl (fun ls hl => ?_)
  exact b4 FU 0 0 _ _ _ hP (lv_sub hl [2, 1, 0] rfl) hF
set_option maxHeartbeats 4000000 in
set_option maxRecDepth 100000 in
theorem w4_countWrongSums (l : Launch) (Γ : Wc) (ad : Nat → Nat → Nat) (A : Nat → Prop) (n : Nat) (hn : n < 11) (σ : Sig) (r : Int32) (hF : f4_countWrongSums n σ = some r) : MI l SX Γ ad A yX4_countWrongSums cX4_countWrongSums 2 (some .int) 1 22 [.ref (ad (n + 1) 0)] σ r σ := by
  refine MI.of (by decide) (Nat.le_of_ble_eq_true rfl) ?_
  intro p e s m args below meth c ls cx hr hk hP hl
  have hl : lv_has ls 2 [(0, .ref (ad (n + 1) 0))] := hl
  rw [f4_countWrongSums] at hF
  generalize hH0 : s.heap = H0 at hP ⊢
  generalize ([] : List Loc) = locs0 at hP ⊢
  clear hH0
  have b22 : ∀ (t0 : Int32) (H : Heap) (locs : List Loc) (ls : Array Slot), PS SX Γ ad A s σ H locs → lv_has ls 2 [(0, .ref (ad (n + 1) 0))] → f4_countWrongSums_b22 n t0 σ = some r → W p l e (rmz 1 22) s m args below meth c H locs 0 0 (QI SX Γ ad A below args s r σ) (F0 m 22 ls [.int t0]) := by
    intro t0 H locs ls hP hl hF
    rw [f4_countWrongSums_b22] at hF
    refine r_istore_n cx [(1, .int t0), (0, .ref (ad (n + 1) 0))] dX4_countWrongSums_22 hl (by decide) rfl (fun ls hl => ?_)
    refine r_aload_n cx dX4_countWrongSums_23 (lv_at hl 1 rfl) ?_
    refine gf4_49 cx hP hn dX4_countWrongSums_24 ?_
    refine gf4_233 cx hP hn dX4_countWrongSums_27 hF (fun v1 hF => ?_)
    refine r_aload_n cx dX4_countWrongSums_30 (lv_at hl 1 rfl) ?_
    refine gf4_49 cx hP hn dX4_countWrongSums_31 ?_
    refine gf4_180 cx hP hn dX4_countWrongSums_34 hF (fun v2 hF => ?_)
    refine r_aload_n cx dX4_countWrongSums_37 (lv_at hl 1 rfl) ?_
    refine gf4_35 cx hP hn dX4_countWrongSums_38 ?_
    obtain ⟨v3, hc, hF⟩ := bnd_some hF
    refine r_callVi cx hP (As := []) (w7_sumOfOwed l Γ ad A n hn σ v3 hc) mw4_255 ⟨Nat.le_of_ble_eq_true rfl, Nat.le_of_ble_eq_true rfl⟩ (dXg hn (by decide)) rfl rfl rfl (Nat.le_of_ble_eq_true rfl) hl.1 ⟨Nat.zero_le _, Nat.zero_le _⟩ dX4_countWrongSums_41 (fun H locs hP => ?_)
    refine r_iadd cx dX4_countWrongSums_44 hF (fun v4 hF => ?_)
    refine r_icmp_ne cx 52 dX4_countWrongSums_45 (by decide) hF (fun hF => ?_) (fun hF => ?_)
    · refine r_iload_n cx dX4_countWrongSums_52 (lv_at hl 0 rfl) ?_
      refine r_iconst cx 1 dX4_countWrongSums_53 (by decide) ?_
      refine r_iadd cx dX4_countWrongSums_54 hF (fun v5 hF => ?_)
      exact r_iret cx hP hr hk dX4_countWrongSums_55 (prF hF)
    · refine r_iload_n cx dX4_countWrongSums_48 (lv_at hl 0 rfl) ?_
      refine r_goto cx 55 dX4_countWrongSums_49 (by decide) ?_
      exact r_iret cx hP hr hk dX4_countWrongSums_55 (prF hF)
  refine r_aload_n cx dX4_countWrongSums_0 (lv_at hl 0 rfl) ?_
  refine gf4_28 cx hP hn dX4_countWrongSums_1 ?_
  obtain ⟨v6, hc, hF⟩ := bnd_some hF
  refine r_callVi cx hP (As := []) (w0_sumOfVisits l Γ ad A n hn σ v6 hc) mw4_251 ⟨Nat.le_of_ble_eq_true rfl, Nat.le_of_ble_eq_true rfl⟩ (dXg hn (by decide)) rfl rfl rfl (Nat.le_of_ble_eq_true rfl) hl.1 ⟨Nat.zero_le _, Nat.zero_le _⟩ dX4_countWrongSums_4 (fun H locs hP => ?_)
  refine r_aload_n cx dX4_countWrongSums_7 (lv_at hl 0 rfl) ?_
  refine gf4_35 cx hP hn dX4_countWrongSums_8 ?_
  obtain ⟨v7, hc, hF⟩ := bnd_some hF
  refine r_callVi cx hP (As := []) (w7_sumOfVisits l Γ ad A n hn σ v7 hc) mw4_254 ⟨Nat.le_of_ble_eq_true rfl, Nat.le_of_ble_eq_true rfl⟩ (dXg hn (by decide)) rfl rfl rfl (Nat.le_of_ble_eq_true rfl) hl.1 ⟨Nat.zero_le _, Nat.zero_le _⟩ dX4_countWrongSums_11 (fun H locs hP => ?_)
  refine r_icmp_ne cx 21 dX4_countWrongSums_14 (by decide) hF (fun hF => ?_) (fun hF => ?_)
  · refine r_iconst cx 1 dX4_countWrongSums_21 (by decide) ?_
    exact b22 1 _ _ _ hP (lv_sub hl [0] rfl) hF
  · refine r_iconst cx 0 dX4_countWrongSums_17 (by decide) ?_
    refine r_goto cx 22 dX4_countWrongSums_18 (by decide) ?_
    exact b22 0 _ _ _ hP (lv_sub hl [0] rfl) hF
set_option maxHeartbeats 4000000 in
set_option maxRecDepth 100000 in
theorem w11_violations (l : Launch) (Γ : Wc) (ad : Nat → Nat → Nat) (A : Nat → Prop)  (σ : Sig) (r : Int32) (hF : f11_violations  σ = some r) : MI l SX Γ ad A yX11_violations cX11_violations 1 (some .int) 3 65 [.ref (ad 0 0)] σ r σ := by
  refine MI.of (by decide) (Nat.le_of_ble_eq_true rfl) ?_
  intro p e s m args below meth c ls cx hr hk hP hl
  have hl : lv_has ls 1 [(0, .ref (ad 0 0))] := hl
  rw [f11_violations] at hF
  refine r_aload_n cx dX11_violations_0 (lv_at hl 0 rfl) ?_
  refine gf11_12 cx hP dX11_violations_1 ?_
  obtain ⟨v1, hc, hF⟩ := bnd_some hF
  refine r_callVi cx hP (As := []) (w4_countWrongPasses l Γ ad A 8 (by decide : 8 < 11) σ v1 hc) mw11_343 ⟨Nat.le_of_ble_eq_true rfl, Nat.le_of_ble_eq_true rfl⟩ (dXg (by decide : 8 < 11) (by decide)) rfl rfl rfl (Nat.le_of_ble_eq_true rfl) hl.1 ⟨Nat.zero_le _, Nat.zero_le _⟩ dX11_violations_4 (fun H locs hP => ?_)
  refine r_aload_n cx dX11_violations_7 (lv_at hl 0 rfl) ?_
  refine gf11_12 cx hP dX11_violations_8 ?_
  refine gf11_104 cx hP (by decide : 8 < 11) dX11_violations_11 ?_
  obtain ⟨v2, hc, hF⟩ := bnd_some hF
  refine r_callVi cx hP (As := []) (w0_countWrong l Γ ad A 8 (by decide : 8 < 11) σ v2 hc) mw11_346 ⟨Nat.le_of_ble_eq_true rfl, Nat.le_of_ble_eq_true rfl⟩ (dXg (by decide : 8 < 11) (by decide)) rfl rfl rfl (Nat.le_of_ble_eq_true rfl) hl.1 ⟨Nat.zero_le _, Nat.zero_le _⟩ dX11_violations_14 (fun H locs hP => ?_)
  refine r_iadd cx dX11_violations_17 hF (fun v3 hF => ?_)
  refine r_aload_n cx dX11_violations_18 (lv_at hl 0 rfl) ?_
  refine gf11_12 cx hP dX11_violations_19 ?_
  obtain ⟨v4, hc, hF⟩ := bnd_some hF
  refine r_callVi cx hP (As := []) (w4_countWrongSums l Γ ad A 8 (by decide : 8 < 11) σ v4 hc) mw11_349 ⟨Nat.le_of_ble_eq_true rfl, Nat.le_of_ble_eq_true rfl⟩ (dXg (by decide : 8 < 11) (by decide)) rfl rfl rfl (Nat.le_of_ble_eq_true rfl) hl.1 ⟨Nat.zero_le _, Nat.zero_le _⟩ dX11_violations_22 (fun H locs hP => ?_)
  refine r_iadd cx dX11_violations_25 hF (fun v5 hF => ?_)
  exact r_iret cx hP hr hk dX11_violations_26 (prF hF)
set_option maxHeartbeats 4000000 in
set_option maxRecDepth 100000 in
theorem w7_isUsed (l : Launch) (Γ : Wc) (ad : Nat → Nat → Nat) (A : Nat → Prop) (n : Nat) (hn : n < 11) (p1 : Int32) (p2 : Int32) (σ : Sig) (r : Int32) (hF : f7_isUsed n p1 p2 σ = some r) : MI l SX Γ ad A yX7_isUsed cX7_isUsed 3 (some .boolean) 0 0 [.ref (ad (n + 1) 4), .int p1, .int p2] σ r σ := by
  refine MI.of (by decide) (Nat.le_of_ble_eq_true rfl) ?_
  intro p e s m args below meth c ls cx hr hk hP hl
  have hl : lv_has ls 3 [(0, .ref (ad (n + 1) 4)), (1, .int p1), (2, .int p2)] := hl
  rw [f7_isUsed] at hF
  refine r_aload_n cx dX7_isUsed_0 (lv_at hl 0 rfl) ?_
  refine gf7_34 cx hP hn dX7_isUsed_1 ?_
  refine r_iload_n cx dX7_isUsed_4 (lv_at hl 1 rfl) ?_
  refine r_iald cx hP (dXg hn (by decide)) rfl dX7_isUsed_5 hF (fun v1 hF => ?_)
  refine r_iload_n cx dX7_isUsed_6 (lv_at hl 2 rfl) ?_
  refine r_ishr cx dX7_isUsed_7 hF (fun v2 hF => ?_)
  refine r_iconst cx 1 dX7_isUsed_8 (by decide) ?_
  refine r_iand cx dX7_isUsed_9 hF (fun v3 hF => ?_)
  refine r_iconst cx 1 dX7_isUsed_10 (by decide) ?_
  refine r_icmp_ne cx 18 dX7_isUsed_11 (by decide) hF (fun hF => ?_) (fun hF => ?_)
  · refine r_iconst cx 0 dX7_isUsed_18 (by decide) ?_
    exact r_zret cx hP hr hk (by decide) dX7_isUsed_19 (prF hF)
  · refine r_iconst cx 1 dX7_isUsed_14 (by decide) ?_
    refine r_goto cx 19 dX7_isUsed_15 (by decide) ?_
    exact r_zret cx hP hr hk (by decide) dX7_isUsed_19 (prF hF)
set_option maxHeartbeats 4000000 in
set_option maxRecDepth 100000 in
theorem w8_letterOfDay (l : Launch) (Γ : Wc) (ad : Nat → Nat → Nat) (A : Nat → Prop) (n0 : Nat) (hn0 : n0 < 11) (p1 : Int32) (p2 : Int32) (p3 : Int32) (σ : Sig) (r : Int32) (hF : f8_letterOfDay n0 p1 p2 p3 σ = some r) : MI l SX Γ ad A yX8_letterOfDay cX8_letterOfDay 4 (some .char) 1 22 [.ref (ad (n0 + 1) 4), .int p1, .int p2, .int p3] σ r σ := by
  refine MI.of (by decide) (Nat.le_of_ble_eq_true rfl) ?_
  intro p e s m args below meth c ls cx hr hk hP hl
  have hl : lv_has ls 4 [(0, .ref (ad (n0 + 1) 4)), (1, .int p1), (2, .int p2), (3, .int p3)] := hl
  rw [f8_letterOfDay] at hF
  refine r_aload_n cx dX8_letterOfDay_0 (lv_at hl 0 rfl) ?_
  refine r_iload_n cx dX8_letterOfDay_1 (lv_at hl 1 rfl) ?_
  refine r_iload_n cx dX8_letterOfDay_2 (lv_at hl 2 rfl) ?_
  obtain ⟨v1, hc, hF⟩ := bnd_some hF
  refine r_callVi cx hP (As := [.int p1, .int p2]) (w7_isUsed l Γ ad A n0 hn0 p1 p2 σ v1 hc) mw8_29 ⟨Nat.le_of_ble_eq_true rfl, Nat.le_of_ble_eq_true rfl⟩ (dXg hn0 (by decide)) rfl rfl rfl (Nat.le_of_ble_eq_true rfl) hl.1 ⟨Nat.zero_le _, Nat.zero_le _⟩ dX8_letterOfDay_3 (fun H locs hP => ?_)
  refine r_if_eq cx 12 dX8_letterOfDay_6 (by decide) hF (fun hF => ?_) (fun hF => ?_)
  · refine r_aload_n cx dX8_letterOfDay_12 (lv_at hl 0 rfl) ?_
    refine gf8_33 cx hP hn0 dX8_letterOfDay_13 ?_
    refine r_iload_n cx dX8_letterOfDay_16 (lv_at hl 1 rfl) ?_
    refine r_iald cx hP (dXg hn0 (by decide)) rfl dX8_letterOfDay_17 hF (fun v2 hF => ?_)
    refine r_iload_n cx dX8_letterOfDay_18 (lv_at hl 2 rfl) ?_
    refine r_iadd cx dX8_letterOfDay_19 hF (fun v3 hF => ?_)
    refine r_iload_n cx dX8_letterOfDay_20 (lv_at hl 3 rfl) ?_
    refine r_icmp_ge cx 29 dX8_letterOfDay_21 (by decide) hF (fun hF => ?_) (fun hF => ?_)
    · refine r_bipush cx 46 dX8_letterOfDay_29 (by decide) ?_
      exact r_zret cx hP hr hk (by decide) dX8_letterOfDay_31 (prF hF)
    · refine r_bipush cx 45 dX8_letterOfDay_24 (by decide) ?_
      refine r_goto cx 31 dX8_letterOfDay_26 (by decide) ?_
      exact r_zret cx hP hr hk (by decide) dX8_letterOfDay_31 (prF hF)
  · refine r_bipush cx 120 dX8_letterOfDay_9 (by decide) ?_
    exact r_zret cx hP hr hk (by decide) dX8_letterOfDay_11 (prF hF)
set_option maxHeartbeats 4000000 in
set_option maxRecDepth 100000 in
theorem w8_writeDays (l : Launch) (Γ : Wc) (ad : Nat → Nat → Nat) (A : Nat → Prop) (n1 : Nat) (hn1 : n1 < 11) (p2 : Int32) (p3 : Int32) (σ : Sig) (σ1 : Sig) (hF : f8_writeDays n1 p2 p3 σ = some σ1) : MV l SX Γ ad A yX8_writeDays cX8_writeDays 5 2 45 [.ref (ad 0 6), .ref (ad (n1 + 1) 4), .int p2, .int p3] σ σ1 := by
  refine MV.of (by decide) (Nat.le_of_ble_eq_true rfl) ?_
  intro p e s m args below meth c ls cx hr hk hP hl
  have hl : lv_has ls 5 [(0, .ref (ad 0 6)), (1, .ref (ad (n1 + 1) 4)), (2, .int p2), (3, .int p3)] := hl
  rw [f8_writeDays] at hF
  generalize hH0 : s.heap = H0 at hP ⊢
  generalize ([] : List Loc) = locs0 at hP ⊢
  clear hH0
  have b13 : ∀ (fu : Nat) (x2 : Int32) (x3 : Int32) (x4 : Int32) (σ : Sig) (H : Heap) (locs : List Loc) (ls : Array Slot), PS SX Γ ad A s σ H locs → lv_has ls 5 [(0, .ref (ad 0 6)), (1, .ref (ad (n1 + 1) 4)), (2, .int x2), (3, .int x3), (4, .int x4)] → f8_writeDays_b13 n1 fu x2 x3 x4 σ = some σ1 → W p l e (rmz 2 45) s m args below meth c H locs 0 0 (QV SX Γ ad A below args s σ1) (F0 m 13 ls []) := by
    intro fu
    induction fu with
    | zero => intro x2 x3 x4 σ H locs ls hP hl hF; exact nofu hF
    | succ fu ih =>
      intro x2 x3 x4 σ H locs ls hP hl hF
      rw [f8_writeDays_b13] at hF
      refine r_iload cx dX8_writeDays_13 (lv_at hl 4 rfl) ?_
      refine r_aload_n cx dX8_writeDays_15 (lv_at hl 0 rfl) ?_
      refine gf8_21 cx hP dX8_writeDays_16 hF (fun v1 hF => ?_)
      refine r_icmp_ge cx 44 dX8_writeDays_19 (by decide) hF (fun hF => ?_) (fun hF => ?_)
      · exact r_vret cx hP hr hk dX8_writeDays_44 hF
      · refine r_aload_n cx dX8_writeDays_22 (lv_at hl 0 rfl) ?_
        refine gf8_9 cx hP dX8_writeDays_23 ?_
        refine r_iload cx dX8_writeDays_26 (lv_at hl 4 rfl) ?_
        refine r_aload_n cx dX8_writeDays_28 (lv_at hl 1 rfl) ?_
        refine r_iload_n cx dX8_writeDays_29 (lv_at hl 2 rfl) ?_
        refine r_iload cx dX8_writeDays_30 (lv_at hl 4 rfl) ?_
        refine r_iload_n cx dX8_writeDays_32 (lv_at hl 3 rfl) ?_
        obtain ⟨v2, hc, hF⟩ := bnd_some hF
        refine r_callSi cx hP (As := [.ref (ad (n1 + 1) 4), .int x2, .int x4, .int x3]) (w8_letterOfDay l Γ ad A n1 hn1 x2 x4 x3 σ v2 hc) mw8_25 ⟨Nat.le_of_ble_eq_true rfl, Nat.le_of_ble_eq_true rfl⟩ rfl (Nat.le_of_ble_eq_true rfl) hl.1 ⟨Nat.zero_le _, Nat.zero_le _⟩ dX8_writeDays_33 (fun H locs hP => ?_)
        refine r_i2b cx dX8_writeDays_36 hF (fun v3 hF => ?_)
        refine r_bast cx hP (dXr (by decide)) (fun _ => rfl) dX8_writeDays_37 hF (fun s4 H locs hP hF => ?_)
        refine r_iinc cx (k := 4) (w := 1) (fun v5 => [(4, .int v5), (0, .ref (ad 0 6)), (1, .ref (ad (n1 + 1) 4)), (2, .int x2), (3, .int x3)]) dX8_writeDays_38 hl rfl (by decide) (by decide) hF (fun _ => rfl) (fun v5 ls hF hl => ?_)
        refine r_goto cx 13 dX8_writeDays_41 (by decide) ?_
        exact ih x2 x3 v5 s4 _ _ _ hP (lv_sub hl [1, 2, 3, 4, 0] rfl) hF
  refine r_aload_n cx dX8_writeDays_0 (lv_at hl 0 rfl) ?_
  refine r_aload_n cx dX8_writeDays_1 (lv_at hl 1 rfl) ?_
  refine gf8_15 cx hP hn1 dX8_writeDays_2 ?_
  refine r_iload_n cx dX8_writeDays_5 (lv_at hl 2 rfl) ?_
  refine r_iald cx hP (dXg hn1 (by decide)) rfl dX8_writeDays_6 hF (fun v6 hF => ?_)
  refine pf8_21 cx hP dX8_writeDays_7 hF (fun s7 H locs hP hF => ?_)
  refine r_iconst cx 0 dX8_writeDays_10 (by decide) ?_
  refine r_istore cx [(4, .int 0), (0, .ref (ad 0 6)), (1, .ref (ad (n1 + 1) 4)), (2, .int p2), (3, .int p3)] dX8_writeDays_11 hl (by decide) rfl (fun ls hl => ?_)
  exact b13 FU p2 p3 0 s7 _ _ _ hP (lv_sub hl [1, 2, 3, 4, 0] rfl) hF
set_option maxHeartbeats 4000000 in
set_option maxRecDepth 100000 in
theorem w11_writePass (l : Launch) (hst : l.stackTraces = false) (Γ : Wc) (ad : Nat → Nat → Nat) (A : Nat → Prop) (p1 : Int32) (σ : Sig) (q : Xe) (hF : f11_writePass p1 σ = some q) : MXi l SX Γ ad A yX11_writePass cX11_writePass 2 (some .int) 7 111 1 [.ref (ad 0 0), .int p1] σ q := by
  refine MXi.of (by decide) (Nat.le_of_ble_eq_true rfl) ?_
  intro p e s m args below meth c ls cx hnt hr hk hP hl
  have hl : lv_has ls 2 [(0, .ref (ad 0 0)), (1, .int p1)] := hl
  rw [f11_writePass] at hF
  refine r_aload_n cx dX11_writePass_0 (lv_at hl 0 rfl) ?_
  refine r_iload_n cx dX11_writePass_1 (lv_at hl 1 rfl) ?_
  refine x_callVv cx hP hnt hk (As := [.int p1]) hF (fun z hz => w11_requirePass l hst Γ ad A p1 σ z hz) mw11_151 ⟨Nat.le_of_ble_eq_true rfl, Nat.le_of_ble_eq_true rfl⟩ (dXr (by decide)) rfl rfl rfl (Nat.le_of_ble_eq_true rfl) hl.1 ⟨Nat.le_of_ble_eq_true rfl, Nat.le_of_ble_eq_true rfl⟩ ⟨Nat.le_of_ble_eq_true rfl, Nat.le_of_ble_eq_true rfl⟩ dX11_writePass_2 (fun v1 s2 H locs hP hF => ?_)
  refine r_aload_n cx dX11_writePass_5 (lv_at hl 0 rfl) ?_
  refine gf11_41 cx hP dX11_writePass_6 ?_
  refine r_aload_n cx dX11_writePass_9 (lv_at hl 0 rfl) ?_
  refine gf11_12 cx hP dX11_writePass_10 ?_
  refine gf11_79 cx hP (by decide : 8 < 11) dX11_writePass_13 ?_
  refine r_iload_n cx dX11_writePass_16 (lv_at hl 1 rfl) ?_
  refine r_aload_n cx dX11_writePass_17 (lv_at hl 0 rfl) ?_
  refine gf11_12 cx hP dX11_writePass_18 ?_
  refine gf11_122 cx hP (by decide : 8 < 11) dX11_writePass_21 ?_
  obtain ⟨v3, hc, hF⟩ := bnd_some hF
  refine r_callVi cx hP (As := []) (w3_today l Γ ad A 8 (by decide : 8 < 11) s2 v3 hc) mw11_142 ⟨Nat.le_of_ble_eq_true rfl, Nat.le_of_ble_eq_true rfl⟩ (dXg (by decide : 8 < 11) (by decide)) rfl rfl rfl (Nat.le_of_ble_eq_true rfl) hl.1 ⟨Nat.le_of_ble_eq_true rfl, Nat.le_of_ble_eq_true rfl⟩ dX11_writePass_24 (fun H locs hP => ?_)
  obtain ⟨s4, hc, hF⟩ := bnd_some hF
  refine r_callVv cx hP (As := [.ref (ad (8 + 1) 4), .int p1, .int v3]) (w8_writeDays l Γ ad A 8 (by decide : 8 < 11) p1 v3 s2 s4 hc) mw11_352 ⟨Nat.le_of_ble_eq_true rfl, Nat.le_of_ble_eq_true rfl⟩ (dXr (by decide)) rfl rfl rfl (Nat.le_of_ble_eq_true rfl) hl.1 ⟨Nat.le_of_ble_eq_true rfl, Nat.le_of_ble_eq_true rfl⟩ dX11_writePass_27 (fun H locs hP => ?_)
  refine r_aload_n cx dX11_writePass_30 (lv_at hl 0 rfl) ?_
  refine gf11_41 cx hP dX11_writePass_31 ?_
  refine gf11_356 cx hP dX11_writePass_34 hF (fun v5 hF => ?_)
  exact x_iret cx hP hr hk ⟨Nat.le_of_ble_eq_true rfl, Nat.le_of_ble_eq_true rfl⟩ dX11_writePass_37 hF
set_option maxHeartbeats 4000000 in
set_option maxRecDepth 100000 in
theorem w11_reportByte (l : Launch) (Γ : Wc) (ad : Nat → Nat → Nat) (A : Nat → Prop) (p1 : Int32) (σ : Sig) (r : Int32) (hF : f11_reportByte p1 σ = some r) : MI l SX Γ ad A yX11_reportByte cX11_reportByte 2 (some .int) 0 0 [.ref (ad 0 0), .int p1] σ r σ := by
  refine MI.of (by decide) (Nat.le_of_ble_eq_true rfl) ?_
  intro p e s m args below meth c ls cx hr hk hP hl
  have hl : lv_has ls 2 [(0, .ref (ad 0 0)), (1, .int p1)] := hl
  rw [f11_reportByte] at hF
  refine r_iload_n cx dX11_reportByte_0 (lv_at hl 1 rfl) ?_
  refine r_if_lt cx 15 dX11_reportByte_1 (by decide) hF (fun hF => ?_) (fun hF => ?_)
  · refine r_iconst cx (-1) dX11_reportByte_15 (by decide) ?_
    exact r_iret cx hP hr hk dX11_reportByte_16 (prF hF)
  · refine r_iload_n cx dX11_reportByte_4 (lv_at hl 1 rfl) ?_
    refine r_aload_n cx dX11_reportByte_5 (lv_at hl 0 rfl) ?_
    refine gf11_41 cx hP dX11_reportByte_6 ?_
    refine gf11_356 cx hP dX11_reportByte_9 hF (fun v1 hF => ?_)
    refine r_icmp_lt cx 17 dX11_reportByte_12 (by decide) hF (fun hF => ?_) (fun hF => ?_)
    · refine r_aload_n cx dX11_reportByte_17 (lv_at hl 0 rfl) ?_
      refine gf11_41 cx hP dX11_reportByte_18 ?_
      refine gf11_357 cx hP dX11_reportByte_21 ?_
      refine r_iload_n cx dX11_reportByte_24 (lv_at hl 1 rfl) ?_
      refine r_bald cx hP (dXr (by decide)) rfl dX11_reportByte_25 hF (fun v2 hF => ?_)
      exact r_iret cx hP hr hk dX11_reportByte_26 (prF hF)
    · refine r_iconst cx (-1) dX11_reportByte_15 (by decide) ?_
      exact r_iret cx hP hr hk dX11_reportByte_16 (prF hF)
set_option maxHeartbeats 4000000 in
set_option maxRecDepth 100000 in
theorem w12_thrown (l : Launch) (Γ : Wc) (ad : Nat → Nat → Nat) (A : Nat → Prop)  (σ : Sig) (r : Int32) (hF : f12_thrown  σ = some r) : MI l SM Γ ad A yX12_thrown cX12_thrown 1 (some .int) 0 0 [.ref (ad 0 0)] σ r σ := by
  refine MI.of (by decide) (Nat.le_of_ble_eq_true rfl) ?_
  intro p e s m args below meth c ls cx hr hk hP hl
  have hl : lv_has ls 1 [(0, .ref (ad 0 0))] := hl
  rw [f12_thrown] at hF
  refine r_aload_n cx dX12_thrown_0 (lv_at hl 0 rfl) ?_
  refine gf12_63 cx hP dX12_thrown_1 hF (fun v1 hF => ?_)
  exact r_iret cx hP hr hk dX12_thrown_4 (prF hF)
set_option maxHeartbeats 4000000 in
set_option maxRecDepth 100000 in
theorem w12_copy (l : Launch) (Γ : Wc) (ad : Nat → Nat → Nat) (A : Nat → Prop) (c0 : Nat) (hc0 : isW c0) (c1 : Nat) (hc1 : isW c1) (σ : Sig) (σ1 : Sig) (hF : f12_copy c0 c1 σ = some σ1) : MV l SM Γ ad A yX12_copy cX12_copy 3 0 0 [.ref (ad 0 c0), .ref (ad 0 c1)] σ σ1 := by
  refine MV.of (by decide) (Nat.le_of_ble_eq_true rfl) ?_
  intro p e s m args below meth c ls cx hr hk hP hl
  have hl : lv_has ls 3 [(0, .ref (ad 0 c0)), (1, .ref (ad 0 c1))] := hl
  rw [f12_copy] at hF
  generalize hH0 : s.heap = H0 at hP ⊢
  generalize ([] : List Loc) = locs0 at hP ⊢
  clear hH0
  have b2 : ∀ (fu : Nat) (x2 : Int32) (σ : Sig) (H : Heap) (locs : List Loc) (ls : Array Slot), PS SM Γ ad A s σ H locs → lv_has ls 3 [(0, .ref (ad 0 c0)), (1, .ref (ad 0 c1)), (2, .int x2)] → f12_copy_b2 c0 c1 fu x2 σ = some σ1 → W p l e (rmz 0 0) s m args below meth c H locs 0 0 (QV SM Γ ad A below args s σ1) (F0 m 2 ls []) := by
    intro fu
    induction fu with
    | zero => intro x2 σ H locs ls hP hl hF; exact nofu hF
    | succ fu ih =>
      intro x2 σ H locs ls hP hl hF
      rw [f12_copy_b2] at hF
      refine r_iload_n cx dX12_copy_2 (lv_at hl 2 rfl) ?_
      refine r_sipush cx 536 dX12_copy_3 (by decide) ?_
      refine r_icmp_ge cx 21 dX12_copy_6 (by decide) hF (fun hF => ?_) (fun hF => ?_)
      · exact r_vret cx hP hr hk dX12_copy_21 hF
      · refine r_aload_n cx dX12_copy_9 (lv_at hl 1 rfl) ?_
        refine r_iload_n cx dX12_copy_10 (lv_at hl 2 rfl) ?_
        refine r_aload_n cx dX12_copy_11 (lv_at hl 0 rfl) ?_
        refine r_iload_n cx dX12_copy_12 (lv_at hl 2 rfl) ?_
        refine r_iald cx hP (isW_d hc0) (isW_E hc0 _ _ _) dX12_copy_13 hF (fun v1 hF => ?_)
        refine r_iast cx hP (isW_d hc1) (fun _ => isW_E hc1 _ _ _) dX12_copy_14 hF (fun s2 H locs hP hF => ?_)
        refine r_iinc cx (k := 2) (w := 1) (fun v3 => [(2, .int v3), (0, .ref (ad 0 c0)), (1, .ref (ad 0 c1))]) dX12_copy_15 hl rfl (by decide) (by decide) hF (fun _ => rfl) (fun v3 ls hF hl => ?_)
        refine r_goto cx 2 dX12_copy_18 (by decide) ?_
        exact ih v3 s2 _ _ _ hP (lv_sub hl [1, 2, 0] rfl) hF
  refine r_iconst cx 0 dX12_copy_0 (by decide) ?_
  refine r_istore_n cx [(2, .int 0), (0, .ref (ad 0 c0)), (1, .ref (ad 0 c1))] dX12_copy_1 hl (by decide) rfl (fun ls hl => ?_)
  exact b2 FU 0 σ _ _ _ hP (lv_sub hl [1, 2, 0] rfl) hF
set_option maxHeartbeats 4000000 in
set_option maxRecDepth 100000 in
theorem w12_empty (l : Launch) (Γ : Wc) (ad : Nat → Nat → Nat) (A : Nat → Prop)  (σ : Sig) (σ1 : Sig) (hF : f12_empty  σ = some σ1) : MV l SM Γ ad A yX12_empty cX12_empty 2 0 0 [.ref (ad 0 0)] σ σ1 := by
  refine MV.of (by decide) (Nat.le_of_ble_eq_true rfl) ?_
  intro p e s m args below meth c ls cx hr hk hP hl
  have hl : lv_has ls 2 [(0, .ref (ad 0 0))] := hl
  rw [f12_empty] at hF
  generalize hH0 : s.heap = H0 at hP ⊢
  generalize ([] : List Loc) = locs0 at hP ⊢
  clear hH0
  have b2 : ∀ (fu : Nat) (x1 : Int32) (σ : Sig) (H : Heap) (locs : List Loc) (ls : Array Slot), PS SM Γ ad A s σ H locs → lv_has ls 2 [(0, .ref (ad 0 0)), (1, .int x1)] → f12_empty_b2 fu x1 σ = some σ1 → W p l e (rmz 0 0) s m args below meth c H locs 0 0 (QV SM Γ ad A below args s σ1) (F0 m 2 ls []) := by
    intro fu
    induction fu with
    | zero => intro x1 σ H locs ls hP hl hF; exact nofu hF
    | succ fu ih =>
      intro x1 σ H locs ls hP hl hF
      rw [f12_empty_b2] at hF
      refine r_iload_n cx dX12_empty_2 (lv_at hl 1 rfl) ?_
      refine r_sipush cx 536 dX12_empty_3 (by decide) ?_
      refine r_icmp_ge cx 22 dX12_empty_6 (by decide) hF (fun hF => ?_) (fun hF => ?_)
      · refine r_aload_n cx dX12_empty_22 (lv_at hl 0 rfl) ?_
        refine gf12_9 cx hP dX12_empty_23 ?_
        refine r_iconst cx 5 dX12_empty_26 (by decide) ?_
        refine r_iconst cx 2 dX12_empty_27 (by decide) ?_
        refine r_iast cx hP (dMr (by decide)) (fun _ => rfl) dX12_empty_28 hF (fun s1 H locs hP hF => ?_)
        refine r_aload_n cx dX12_empty_29 (lv_at hl 0 rfl) ?_
        refine gf12_9 cx hP dX12_empty_30 ?_
        refine r_bipush cx 6 dX12_empty_33 (by decide) ?_
        refine r_iconst cx 1 dX12_empty_35 (by decide) ?_
        refine r_iast cx hP (dMr (by decide)) (fun _ => rfl) dX12_empty_36 hF (fun s2 H locs hP hF => ?_)
        refine r_aload_n cx dX12_empty_37 (lv_at hl 0 rfl) ?_
        refine gf12_9 cx hP dX12_empty_38 ?_
        refine r_bipush cx 7 dX12_empty_41 (by decide) ?_
        refine r_bipush cx 50 dX12_empty_43 (by decide) ?_
        refine r_iast cx hP (dMr (by decide)) (fun _ => rfl) dX12_empty_45 hF (fun s3 H locs hP hF => ?_)
        refine r_aload_n cx dX12_empty_46 (lv_at hl 0 rfl) ?_
        refine gf12_9 cx hP dX12_empty_47 ?_
        refine r_bipush cx 8 dX12_empty_50 (by decide) ?_
        refine r_bipush cx 53 dX12_empty_52 (by decide) ?_
        refine r_iast cx hP (dMr (by decide)) (fun _ => rfl) dX12_empty_54 hF (fun s4 H locs hP hF => ?_)
        exact r_vret cx hP hr hk dX12_empty_55 hF
      · refine r_aload_n cx dX12_empty_9 (lv_at hl 0 rfl) ?_
        refine gf12_9 cx hP dX12_empty_10 ?_
        refine r_iload_n cx dX12_empty_13 (lv_at hl 1 rfl) ?_
        refine r_iconst cx 0 dX12_empty_14 (by decide) ?_
        refine r_iast cx hP (dMr (by decide)) (fun _ => rfl) dX12_empty_15 hF (fun s5 H locs hP hF => ?_)
        refine r_iinc cx (k := 1) (w := 1) (fun v6 => [(1, .int v6), (0, .ref (ad 0 0))]) dX12_empty_16 hl rfl (by decide) (by decide) hF (fun _ => rfl) (fun v6 ls hF hl => ?_)
        refine r_goto cx 2 dX12_empty_19 (by decide) ?_
        exact ih v6 s5 _ _ _ hP (lv_sub hl [1, 0] rfl) hF
  refine r_iconst cx 0 dX12_empty_0 (by decide) ?_
  refine r_istore_n cx [(1, .int 0), (0, .ref (ad 0 0))] dX12_empty_1 hl (by decide) rfl (fun ls hl => ?_)
  exact b2 FU 0 σ _ _ _ hP (lv_sub hl [1, 0] rfl) hF
set_option maxHeartbeats 4000000 in
set_option maxRecDepth 100000 in
theorem w12_remember (l : Launch) (Γ : Wc) (ad : Nat → Nat → Nat) (A : Nat → Prop) (c1 : Nat) (hc1 : isW c1) (σ : Sig) (σ1 : Sig) (hF : f12_remember c1 σ = some σ1) : MV l SM Γ ad A yX12_remember cX12_remember 4 1 22 [.ref (ad 0 0), .ref (ad 0 c1)] σ σ1 := by
  refine MV.of (by decide) (Nat.le_of_ble_eq_true rfl) ?_
  intro p e s m args below meth c ls cx hr hk hP hl
  have hl : lv_has ls 4 [(0, .ref (ad 0 0)), (1, .ref (ad 0 c1))] := hl
  rw [f12_remember] at hF
  generalize hH0 : s.heap = H0 at hP ⊢
  generalize ([] : List Loc) = locs0 at hP ⊢
  clear hH0
  have b62 : ∀ (σ : Sig) (H : Heap) (locs : List Loc) (ls : Array Slot), PS SM Γ ad A s σ H locs → lv_has ls 4 [(0, .ref (ad 0 0)), (1, .ref (ad 0 c1))] → f12_remember_b62 c1 σ = some σ1 → W p l e (rmz 1 22) s m args below meth c H locs 0 0 (QV SM Γ ad A below args s σ1) (F0 m 62 ls []) := by
    intro σ H locs ls hP hl hF
    rw [f12_remember_b62] at hF
    refine r_aload_n cx dX12_remember_62 (lv_at hl 1 rfl) ?_
    refine r_aload_n cx dX12_remember_63 (lv_at hl 0 rfl) ?_
    refine gf12_15 cx hP dX12_remember_64 ?_
    refine r_aload_n cx dX12_remember_67 (lv_at hl 0 rfl) ?_
    refine gf12_66 cx hP dX12_remember_68 hF (fun v1 hF => ?_)
    refine r_alw cx hP dX12_remember_71 hF (fun j2 hj2 hF => ?_)
    obtain ⟨s3, hc, hF⟩ := bnd_some hF
    refine r_callSv cx hP (As := [.ref (ad 0 c1), .ref (ad 0 j2)]) (w12_copy l Γ ad A c1 hc1 j2 hj2 σ s3 hc) mw12_69 ⟨Nat.le_of_ble_eq_true rfl, Nat.le_of_ble_eq_true rfl⟩ rfl (Nat.le_of_ble_eq_true rfl) hl.1 ⟨Nat.zero_le _, Nat.zero_le _⟩ dX12_remember_72 (fun H locs hP => ?_)
    refine r_aload_n cx dX12_remember_75 (lv_at hl 0 rfl) ?_
    refine r_dup cx dX12_remember_76 rfl ?_
    refine gf12_66 cx hP dX12_remember_77 hF (fun v4 hF => ?_)
    refine r_iconst cx 1 dX12_remember_80 (by decide) ?_
    refine r_iadd cx dX12_remember_81 hF (fun v5 hF => ?_)
    refine pf12_66 cx hP dX12_remember_82 hF (fun s6 H locs hP hF => ?_)
    exact r_vret cx hP hr hk dX12_remember_85 hF
  have b18 : ∀ (fu : Nat) (x3 : Int32) (y2 : Nat) (hy2 : isW y2) (σ : Sig) (H : Heap) (locs : List Loc) (ls : Array Slot), PS SM Γ ad A s σ H locs → lv_has ls 4 [(0, .ref (ad 0 0)), (1, .ref (ad 0 c1)), (2, .ref (ad 0 y2)), (3, .int x3)] → f12_remember_b18 c1 fu x3 y2 σ = some σ1 → W p l e (rmz 1 22) s m args below meth c H locs 0 0 (QV SM Γ ad A below args s σ1) (F0 m 18 ls []) := by
    intro fu
    induction fu with
    | zero => intro x3 y2 hy2 σ H locs ls hP hl hF; exact nofu hF
    | succ fu ih =>
      intro x3 y2 hy2 σ H locs ls hP hl hF
      rw [f12_remember_b18] at hF
      refine r_iload_n cx dX12_remember_18 (lv_at hl 3 rfl) ?_
      refine r_bipush cx 8 dX12_remember_19 (by decide) ?_
      refine r_icmp_ge cx 44 dX12_remember_21 (by decide) hF (fun hF => ?_) (fun hF => ?_)
      · refine r_aload_n cx dX12_remember_44 (lv_at hl 0 rfl) ?_
        refine gf12_15 cx hP dX12_remember_45 ?_
        refine r_bipush cx 7 dX12_remember_48 (by decide) ?_
        refine r_aload_n cx dX12_remember_50 (lv_at hl 2 rfl) ?_
        refine r_asw cx hP hy2 dX12_remember_51 hF (fun s7 H locs hP hF => ?_)
        refine r_aload_n cx dX12_remember_52 (lv_at hl 0 rfl) ?_
        refine r_dup cx dX12_remember_53 rfl ?_
        refine gf12_66 cx hP dX12_remember_54 hF (fun v8 hF => ?_)
        refine r_iconst cx 1 dX12_remember_57 (by decide) ?_
        refine r_isub cx dX12_remember_58 hF (fun v9 hF => ?_)
        refine pf12_66 cx hP dX12_remember_59 hF (fun s10 H locs hP hF => ?_)
        exact b62 s10 _ _ _ hP (lv_sub hl [0, 1] rfl) hF
      · refine r_aload_n cx dX12_remember_24 (lv_at hl 0 rfl) ?_
        refine gf12_15 cx hP dX12_remember_25 ?_
        refine r_iload_n cx dX12_remember_28 (lv_at hl 3 rfl) ?_
        refine r_iconst cx 1 dX12_remember_29 (by decide) ?_
        refine r_isub cx dX12_remember_30 hF (fun v11 hF => ?_)
        refine r_aload_n cx dX12_remember_31 (lv_at hl 0 rfl) ?_
        refine gf12_15 cx hP dX12_remember_32 ?_
        refine r_iload_n cx dX12_remember_35 (lv_at hl 3 rfl) ?_
        refine r_alw cx hP dX12_remember_36 hF (fun j12 hj12 hF => ?_)
        refine r_asw cx hP hj12 dX12_remember_37 hF (fun s13 H locs hP hF => ?_)
        refine r_iinc cx (k := 3) (w := 1) (fun v14 => [(3, .int v14), (0, .ref (ad 0 0)), (1, .ref (ad 0 c1)), (2, .ref (ad 0 y2))]) dX12_remember_38 hl rfl (by decide) (by decide) hF (fun _ => rfl) (fun v14 ls hF hl => ?_)
        refine r_goto cx 18 dX12_remember_41 (by decide) ?_
        exact ih v14 y2 hy2 s13 _ _ _ hP (lv_sub hl [1, 2, 3, 0] rfl) hF
  refine r_aload_n cx dX12_remember_0 (lv_at hl 0 rfl) ?_
  refine gf12_66 cx hP dX12_remember_1 hF (fun v15 hF => ?_)
  refine r_bipush cx 8 dX12_remember_4 (by decide) ?_
  refine r_icmp_ne cx 62 dX12_remember_6 (by decide) hF (fun hF => ?_) (fun hF => ?_)
  · exact b62 σ _ _ _ hP (lv_sub hl [0, 1] rfl) hF
  · refine r_aload_n cx dX12_remember_9 (lv_at hl 0 rfl) ?_
    refine gf12_15 cx hP dX12_remember_10 ?_
    refine r_iconst cx 0 dX12_remember_13 (by decide) ?_
    refine r_alw cx hP dX12_remember_14 hF (fun j16 hj16 hF => ?_)
    refine r_astore_n cx [(2, .ref (ad 0 j16)), (0, .ref (ad 0 0)), (1, .ref (ad 0 c1))] dX12_remember_15 hl (by decide) rfl (fun ls hl => ?_)
    refine r_iconst cx 1 dX12_remember_16 (by decide) ?_
    refine r_istore_n cx [(3, .int 1), (2, .ref (ad 0 j16)), (0, .ref (ad 0 0)), (1, .ref (ad 0 c1))] dX12_remember_17 hl (by decide) rfl (fun ls hl => ?_)
    exact b18 FU 1 j16 hj16 σ _ _ _ hP (lv_sub hl [2, 3, 1, 0] rfl) hF
set_option maxHeartbeats 4000000 in
set_option maxRecDepth 100000 in
theorem w12_outside (l : Launch) (Γ : Wc) (ad : Nat → Nat → Nat) (A : Nat → Prop) (p1 : Int32) (p2 : Int32) (p3 : Int32) (p4 : Int32) (σ : Sig) (r : Int32) (σ1 : Sig) (hF : f12_outside p1 p2 p3 p4 σ = some (r, σ1)) : MI l SM Γ ad A yX12_outside cX12_outside 5 (some .boolean) 0 0 [.ref (ad 0 0), .int p1, .int p2, .int p3, .int p4] σ r σ1 := by
  refine MI.of (by decide) (Nat.le_of_ble_eq_true rfl) ?_
  intro p e s m args below meth c ls cx hr hk hP hl
  have hl : lv_has ls 5 [(0, .ref (ad 0 0)), (1, .int p1), (2, .int p2), (3, .int p3), (4, .int p4)] := hl
  rw [f12_outside] at hF
  generalize hH0 : s.heap = H0 at hP ⊢
  generalize ([] : List Loc) = locs0 at hP ⊢
  clear hH0
  have b10 : ∀ (x4 : Int32) (σ : Sig) (H : Heap) (locs : List Loc) (ls : Array Slot), PS SM Γ ad A s σ H locs → lv_has ls 5 [(0, .ref (ad 0 0)), (4, .int x4)] → f12_outside_b10 x4 σ = some (r, σ1) → W p l e (rmz 0 0) s m args below meth c H locs 0 0 (QI SM Γ ad A below args s r σ1) (F0 m 10 ls []) := by
    intro x4 σ H locs ls hP hl hF
    rw [f12_outside_b10] at hF
    refine r_aload_n cx dX12_outside_10 (lv_at hl 0 rfl) ?_
    refine r_iload cx dX12_outside_11 (lv_at hl 1 rfl) ?_
    refine pf12_63 cx hP dX12_outside_13 hF (fun s1 H locs hP hF => ?_)
    refine r_iconst cx 1 dX12_outside_16 (by decide) ?_
    exact r_zret cx hP hr hk (by decide) dX12_outside_17 hF
  refine r_iload_n cx dX12_outside_0 (lv_at hl 1 rfl) ?_
  refine r_iload_n cx dX12_outside_1 (lv_at hl 2 rfl) ?_
  refine r_icmp_lt cx 10 dX12_outside_2 (by decide) hF (fun hF => ?_) (fun hF => ?_)
  · exact b10 p4 σ _ _ _ hP (lv_sub hl [0, 4] rfl) hF
  · refine r_iload_n cx dX12_outside_5 (lv_at hl 1 rfl) ?_
    refine r_iload_n cx dX12_outside_6 (lv_at hl 3 rfl) ?_
    refine r_icmp_le cx 18 dX12_outside_7 (by decide) hF (fun hF => ?_) (fun hF => ?_)
    · refine r_iconst cx 0 dX12_outside_18 (by decide) ?_
      exact r_zret cx hP hr hk (by decide) dX12_outside_19 hF
    · exact b10 p4 σ _ _ _ hP (lv_sub hl [0, 4] rfl) hF
set_option maxHeartbeats 4000000 in
set_option maxRecDepth 100000 in
theorem w12_raise (l : Launch) (Γ : Wc) (ad : Nat → Nat → Nat) (A : Nat → Prop) (p1 : Int32) (p2 : Int32) (σ : Sig) (r : Int32) (σ1 : Sig) (hF : f12_raise p1 p2 σ = some (r, σ1)) : MI l SM Γ ad A yX12_raise cX12_raise 3 (some .boolean) 0 0 [.ref (ad 0 0), .int p1, .int p2] σ r σ1 := by
  refine MI.of (by decide) (Nat.le_of_ble_eq_true rfl) ?_
  intro p e s m args below meth c ls cx hr hk hP hl
  have hl : lv_has ls 3 [(0, .ref (ad 0 0)), (1, .int p1), (2, .int p2)] := hl
  rw [f12_raise] at hF
  refine r_iload_n cx dX12_raise_0 (lv_at hl 1 rfl) ?_
  refine r_if_eq cx 9 dX12_raise_1 (by decide) hF (fun hF => ?_) (fun hF => ?_)
  · refine r_iload_n cx dX12_raise_9 (lv_at hl 1 rfl) ?_
    exact r_zret cx hP hr hk (nar_gz (gz_some hF).1) dX12_raise_10 (gz_some hF).2
  · refine r_aload_n cx dX12_raise_4 (lv_at hl 0 rfl) ?_
    refine r_iload_n cx dX12_raise_5 (lv_at hl 2 rfl) ?_
    refine pf12_63 cx hP dX12_raise_6 hF (fun s1 H locs hP hF => ?_)
    refine r_iload_n cx dX12_raise_9 (lv_at hl 1 rfl) ?_
    exact r_zret cx hP hr hk (nar_gz (gz_some hF).1) dX12_raise_10 (gz_some hF).2
set_option maxHeartbeats 4000000 in
set_option maxRecDepth 100000 in
theorem w12_noScent (l : Launch) (Γ : Wc) (ad : Nat → Nat → Nat) (A : Nat → Prop) (p1 : Int32) (σ : Sig) (r : Int32) (σ1 : Sig) (hF : f12_noScent p1 σ = some (r, σ1)) : MI l SM Γ ad A yX12_noScent cX12_noScent 2 (some .boolean) 1 24 [.ref (ad 0 0), .int p1] σ r σ1 := by
  refine MI.of (by decide) (Nat.le_of_ble_eq_true rfl) ?_
  intro p e s m args below meth c ls cx hr hk hP hl
  have hl : lv_has ls 2 [(0, .ref (ad 0 0)), (1, .int p1)] := hl
  rw [f12_noScent] at hF
  refine r_aload_n cx dX12_noScent_0 (lv_at hl 0 rfl) ?_
  refine r_iload_n cx dX12_noScent_1 (lv_at hl 1 rfl) ?_
  refine r_iconst cx 0 dX12_noScent_2 (by decide) ?_
  refine r_aload_n cx dX12_noScent_3 (lv_at hl 0 rfl) ?_
  refine gf12_9 cx hP dX12_noScent_4 ?_
  refine r_iconst cx 0 dX12_noScent_7 (by decide) ?_
  refine r_iald cx hP (dMr (by decide)) rfl dX12_noScent_8 hF (fun v1 hF => ?_)
  refine r_iconst cx 1 dX12_noScent_9 (by decide) ?_
  refine r_isub cx dX12_noScent_10 hF (fun v2 hF => ?_)
  refine r_iconst cx 1 dX12_noScent_11 (by decide) ?_
  obtain ⟨v3, s4, hc, hF⟩ := bns_some hF
  refine r_callVi cx hP (As := [.int p1, .int 0, .int v2, .int 1]) (w12_outside l Γ ad A p1 0 v2 1 σ v3 s4 hc) mw12_73 ⟨Nat.le_of_ble_eq_true rfl, Nat.le_of_ble_eq_true rfl⟩ (dMr (by decide)) rfl rfl rfl (Nat.le_of_ble_eq_true rfl) hl.1 ⟨Nat.zero_le _, Nat.zero_le _⟩ dX12_noScent_12 (fun H locs hP => ?_)
  exact r_zret cx hP hr hk (nar_gz (gz_some hF).1) dX12_noScent_15 (gz_some hF).2
set_option maxHeartbeats 4000000 in
set_option maxRecDepth 100000 in
theorem w12_noBed (l : Launch) (Γ : Wc) (ad : Nat → Nat → Nat) (A : Nat → Prop) (p1 : Int32) (σ : Sig) (r : Int32) (σ1 : Sig) (hF : f12_noBed p1 σ = some (r, σ1)) : MI l SM Γ ad A yX12_noBed cX12_noBed 2 (some .boolean) 1 24 [.ref (ad 0 0), .int p1] σ r σ1 := by
  refine MI.of (by decide) (Nat.le_of_ble_eq_true rfl) ?_
  intro p e s m args below meth c ls cx hr hk hP hl
  have hl : lv_has ls 2 [(0, .ref (ad 0 0)), (1, .int p1)] := hl
  rw [f12_noBed] at hF
  refine r_aload_n cx dX12_noBed_0 (lv_at hl 0 rfl) ?_
  refine r_iload_n cx dX12_noBed_1 (lv_at hl 1 rfl) ?_
  refine r_iconst cx 0 dX12_noBed_2 (by decide) ?_
  refine r_aload_n cx dX12_noBed_3 (lv_at hl 0 rfl) ?_
  refine gf12_9 cx hP dX12_noBed_4 ?_
  refine r_iconst cx 1 dX12_noBed_7 (by decide) ?_
  refine r_iald cx hP (dMr (by decide)) rfl dX12_noBed_8 hF (fun v1 hF => ?_)
  refine r_iconst cx 1 dX12_noBed_9 (by decide) ?_
  refine r_isub cx dX12_noBed_10 hF (fun v2 hF => ?_)
  refine r_iconst cx 1 dX12_noBed_11 (by decide) ?_
  obtain ⟨v3, s4, hc, hF⟩ := bns_some hF
  refine r_callVi cx hP (As := [.int p1, .int 0, .int v2, .int 1]) (w12_outside l Γ ad A p1 0 v2 1 σ v3 s4 hc) mw12_73 ⟨Nat.le_of_ble_eq_true rfl, Nat.le_of_ble_eq_true rfl⟩ (dMr (by decide)) rfl rfl rfl (Nat.le_of_ble_eq_true rfl) hl.1 ⟨Nat.zero_le _, Nat.zero_le _⟩ dX12_noBed_12 (fun H locs hP => ?_)
  exact r_zret cx hP hr hk (nar_gz (gz_some hF).1) dX12_noBed_15 (gz_some hF).2
set_option maxHeartbeats 4000000 in
set_option maxRecDepth 100000 in
theorem w12_noPass (l : Launch) (Γ : Wc) (ad : Nat → Nat → Nat) (A : Nat → Prop) (p1 : Int32) (σ : Sig) (r : Int32) (σ1 : Sig) (hF : f12_noPass p1 σ = some (r, σ1)) : MI l SM Γ ad A yX12_noPass cX12_noPass 2 (some .boolean) 1 24 [.ref (ad 0 0), .int p1] σ r σ1 := by
  refine MI.of (by decide) (Nat.le_of_ble_eq_true rfl) ?_
  intro p e s m args below meth c ls cx hr hk hP hl
  have hl : lv_has ls 2 [(0, .ref (ad 0 0)), (1, .int p1)] := hl
  rw [f12_noPass] at hF
  refine r_aload_n cx dX12_noPass_0 (lv_at hl 0 rfl) ?_
  refine r_iload_n cx dX12_noPass_1 (lv_at hl 1 rfl) ?_
  refine r_iconst cx 0 dX12_noPass_2 (by decide) ?_
  refine r_aload_n cx dX12_noPass_3 (lv_at hl 0 rfl) ?_
  refine gf12_9 cx hP dX12_noPass_4 ?_
  refine r_iconst cx 2 dX12_noPass_7 (by decide) ?_
  refine r_iald cx hP (dMr (by decide)) rfl dX12_noPass_8 hF (fun v1 hF => ?_)
  refine r_iconst cx 1 dX12_noPass_9 (by decide) ?_
  refine r_isub cx dX12_noPass_10 hF (fun v2 hF => ?_)
  refine r_iconst cx 1 dX12_noPass_11 (by decide) ?_
  obtain ⟨v3, s4, hc, hF⟩ := bns_some hF
  refine r_callVi cx hP (As := [.int p1, .int 0, .int v2, .int 1]) (w12_outside l Γ ad A p1 0 v2 1 σ v3 s4 hc) mw12_73 ⟨Nat.le_of_ble_eq_true rfl, Nat.le_of_ble_eq_true rfl⟩ (dMr (by decide)) rfl rfl rfl (Nat.le_of_ble_eq_true rfl) hl.1 ⟨Nat.zero_le _, Nat.zero_le _⟩ dX12_noPass_12 (fun H locs hP => ?_)
  exact r_zret cx hP hr hk (nar_gz (gz_some hF).1) dX12_noPass_15 (gz_some hF).2
set_option maxHeartbeats 4000000 in
set_option maxRecDepth 100000 in
theorem w12_noCard (l : Launch) (Γ : Wc) (ad : Nat → Nat → Nat) (A : Nat → Prop) (p1 : Int32) (σ : Sig) (r : Int32) (σ1 : Sig) (hF : f12_noCard p1 σ = some (r, σ1)) : MI l SM Γ ad A yX12_noCard cX12_noCard 2 (some .boolean) 1 24 [.ref (ad 0 0), .int p1] σ r σ1 := by
  refine MI.of (by decide) (Nat.le_of_ble_eq_true rfl) ?_
  intro p e s m args below meth c ls cx hr hk hP hl
  have hl : lv_has ls 2 [(0, .ref (ad 0 0)), (1, .int p1)] := hl
  rw [f12_noCard] at hF
  refine r_aload_n cx dX12_noCard_0 (lv_at hl 0 rfl) ?_
  refine r_iload_n cx dX12_noCard_1 (lv_at hl 1 rfl) ?_
  refine r_iconst cx 0 dX12_noCard_2 (by decide) ?_
  refine r_aload_n cx dX12_noCard_3 (lv_at hl 0 rfl) ?_
  refine gf12_9 cx hP dX12_noCard_4 ?_
  refine r_iconst cx 3 dX12_noCard_7 (by decide) ?_
  refine r_iald cx hP (dMr (by decide)) rfl dX12_noCard_8 hF (fun v1 hF => ?_)
  refine r_iconst cx 1 dX12_noCard_9 (by decide) ?_
  refine r_isub cx dX12_noCard_10 hF (fun v2 hF => ?_)
  refine r_iconst cx 1 dX12_noCard_11 (by decide) ?_
  obtain ⟨v3, s4, hc, hF⟩ := bns_some hF
  refine r_callVi cx hP (As := [.int p1, .int 0, .int v2, .int 1]) (w12_outside l Γ ad A p1 0 v2 1 σ v3 s4 hc) mw12_73 ⟨Nat.le_of_ble_eq_true rfl, Nat.le_of_ble_eq_true rfl⟩ (dMr (by decide)) rfl rfl rfl (Nat.le_of_ble_eq_true rfl) hl.1 ⟨Nat.zero_le _, Nat.zero_le _⟩ dX12_noCard_12 (fun H locs hP => ?_)
  exact r_zret cx hP hr hk (nar_gz (gz_some hF).1) dX12_noCard_15 (gz_some hF).2
set_option maxHeartbeats 4000000 in
set_option maxRecDepth 100000 in
theorem w12_ones (l : Launch) (Γ : Wc) (ad : Nat → Nat → Nat) (A : Nat → Prop) (p0 : Int32) (σ : Sig) (r : Int32) (hF : f12_ones p0 = some r) : MI l SM Γ ad A yX12_ones cX12_ones 3 (some .int) 0 0 [.int p0] σ r σ := by
  refine MI.of (by decide) (Nat.le_of_ble_eq_true rfl) ?_
  intro p e s m args below meth c ls cx hr hk hP hl
  have hl : lv_has ls 3 [(0, .int p0)] := hl
  rw [f12_ones] at hF
  generalize hH0 : s.heap = H0 at hP ⊢
  generalize ([] : List Loc) = locs0 at hP ⊢
  clear hH0
  have b4 : ∀ (fu : Nat) (x1 : Int32) (x2 : Int32) (H : Heap) (locs : List Loc) (ls : Array Slot), PS SM Γ ad A s σ H locs → lv_has ls 3 [(1, .int x1), (2, .int x2)] → f12_ones_b4 fu x1 x2 = some r → W p l e (rmz 0 0) s m args below meth c H locs 0 0 (QI SM Γ ad A below args s r σ) (F0 m 4 ls []) := by
    intro fu
    induction fu with
    | zero => intro x1 x2 H locs ls hP hl hF; exact nofu hF
    | succ fu ih =>
      intro x1 x2 H locs ls hP hl hF
      rw [f12_ones_b4] at hF
      refine r_iload_n cx dX12_ones_4 (lv_at hl 1 rfl) ?_
      refine r_if_eq cx 20 dX12_ones_5 (by decide) hF (fun hF => ?_) (fun hF => ?_)
      · refine r_iload_n cx dX12_ones_20 (lv_at hl 0 rfl) ?_
        exact r_iret cx hP hr hk dX12_ones_21 (prF hF)
      · refine r_iinc cx (k := 0) (w := 1) (fun v1 => [(1, .int v1), (2, .int x2)]) dX12_ones_8 hl rfl (by decide) (by decide) hF (fun _ => rfl) (fun v1 ls hF hl => ?_)
        refine r_iload_n cx dX12_ones_11 (lv_at hl 1 rfl) ?_
        refine r_iload_n cx dX12_ones_12 (lv_at hl 1 rfl) ?_
        refine r_iconst cx 1 dX12_ones_13 (by decide) ?_
        refine r_isub cx dX12_ones_14 hF (fun v2 hF => ?_)
        refine r_iand cx dX12_ones_15 hF (fun v3 hF => ?_)
        refine r_istore_n cx [(2, .int v3), (1, .int v1)] dX12_ones_16 hl (by decide) rfl (fun ls hl => ?_)
        refine r_goto cx 4 dX12_ones_17 (by decide) ?_
        exact ih v1 v3 _ _ _ hP (lv_sub hl [1, 0] rfl) hF
  refine r_iconst cx 0 dX12_ones_0 (by decide) ?_
  refine r_istore_n cx [(1, .int 0), (0, .int p0)] dX12_ones_1 hl (by decide) rfl (fun ls hl => ?_)
  refine r_iload_n cx dX12_ones_2 (lv_at hl 1 rfl) ?_
  refine r_istore_n cx [(2, .int p0), (1, .int 0), (0, .int p0)] dX12_ones_3 hl (by decide) rfl (fun ls hl => ?_)
  exact b4 FU 0 p0 _ _ _ hP (lv_sub hl [1, 0] rfl) hF
set_option maxHeartbeats 4000000 in
set_option maxRecDepth 100000 in
theorem w12_bed (l : Launch) (Γ : Wc) (ad : Nat → Nat → Nat) (A : Nat → Prop) (p1 : Int32) (p2 : Int32) (σ : Sig) (r : Int32) (hF : f12_bed p1 p2 σ = some r) : MI l SM Γ ad A yX12_bed cX12_bed 3 (some .int) 0 0 [.ref (ad 0 0), .int p1, .int p2] σ r σ := by
  refine MI.of (by decide) (Nat.le_of_ble_eq_true rfl) ?_
  intro p e s m args below meth c ls cx hr hk hP hl
  have hl : lv_has ls 3 [(0, .ref (ad 0 0)), (1, .int p1), (2, .int p2)] := hl
  rw [f12_bed] at hF
  refine r_aload_n cx dX12_bed_0 (lv_at hl 0 rfl) ?_
  refine gf12_9 cx hP dX12_bed_1 ?_
  refine r_bipush cx 20 dX12_bed_4 (by decide) ?_
  refine r_iload_n cx dX12_bed_6 (lv_at hl 1 rfl) ?_
  refine r_bipush cx 7 dX12_bed_7 (by decide) ?_
  refine r_imul cx dX12_bed_9 hF (fun v1 hF => ?_)
  refine r_iadd cx dX12_bed_10 hF (fun v2 hF => ?_)
  refine r_iload_n cx dX12_bed_11 (lv_at hl 2 rfl) ?_
  refine r_iadd cx dX12_bed_12 hF (fun v3 hF => ?_)
  refine r_iald cx hP (dMr (by decide)) rfl dX12_bed_13 hF (fun v4 hF => ?_)
  exact r_iret cx hP hr hk dX12_bed_14 (prF hF)
set_option maxHeartbeats 4000000 in
set_option maxRecDepth 100000 in
theorem w12_putBed (l : Launch) (Γ : Wc) (ad : Nat → Nat → Nat) (A : Nat → Prop) (p1 : Int32) (p2 : Int32) (p3 : Int32) (σ : Sig) (σ1 : Sig) (hF : f12_putBed p1 p2 p3 σ = some σ1) : MV l SM Γ ad A yX12_putBed cX12_putBed 4 0 0 [.ref (ad 0 0), .int p1, .int p2, .int p3] σ σ1 := by
  refine MV.of (by decide) (Nat.le_of_ble_eq_true rfl) ?_
  intro p e s m args below meth c ls cx hr hk hP hl
  have hl : lv_has ls 4 [(0, .ref (ad 0 0)), (1, .int p1), (2, .int p2), (3, .int p3)] := hl
  rw [f12_putBed] at hF
  refine r_aload_n cx dX12_putBed_0 (lv_at hl 0 rfl) ?_
  refine gf12_9 cx hP dX12_putBed_1 ?_
  refine r_bipush cx 20 dX12_putBed_4 (by decide) ?_
  refine r_iload_n cx dX12_putBed_6 (lv_at hl 1 rfl) ?_
  refine r_bipush cx 7 dX12_putBed_7 (by decide) ?_
  refine r_imul cx dX12_putBed_9 hF (fun v1 hF => ?_)
  refine r_iadd cx dX12_putBed_10 hF (fun v2 hF => ?_)
  refine r_iload_n cx dX12_putBed_11 (lv_at hl 2 rfl) ?_
  refine r_iadd cx dX12_putBed_12 hF (fun v3 hF => ?_)
  refine r_iload_n cx dX12_putBed_13 (lv_at hl 3 rfl) ?_
  refine r_iast cx hP (dMr (by decide)) (fun _ => rfl) dX12_putBed_14 hF (fun s4 H locs hP hF => ?_)
  exact r_vret cx hP hr hk dX12_putBed_15 hF
set_option maxHeartbeats 4000000 in
set_option maxRecDepth 100000 in
theorem w12_of (l : Launch) (Γ : Wc) (ad : Nat → Nat → Nat) (A : Nat → Prop) (p1 : Int32) (p2 : Int32) (σ : Sig) (r : Int32) (hF : f12_of p1 p2 σ = some r) : MI l SM Γ ad A yX12_of cX12_of 3 (some .int) 0 0 [.ref (ad 0 0), .int p1, .int p2] σ r σ := by
  refine MI.of (by decide) (Nat.le_of_ble_eq_true rfl) ?_
  intro p e s m args below meth c ls cx hr hk hP hl
  have hl : lv_has ls 3 [(0, .ref (ad 0 0)), (1, .int p1), (2, .int p2)] := hl
  rw [f12_of] at hF
  refine r_aload_n cx dX12_of_0 (lv_at hl 0 rfl) ?_
  refine gf12_9 cx hP dX12_of_1 ?_
  refine r_bipush cx 76 dX12_of_4 (by decide) ?_
  refine r_iload_n cx dX12_of_6 (lv_at hl 1 rfl) ?_
  refine r_bipush cx 12 dX12_of_7 (by decide) ?_
  refine r_imul cx dX12_of_9 hF (fun v1 hF => ?_)
  refine r_iadd cx dX12_of_10 hF (fun v2 hF => ?_)
  refine r_iload_n cx dX12_of_11 (lv_at hl 2 rfl) ?_
  refine r_iadd cx dX12_of_12 hF (fun v3 hF => ?_)
  refine r_iald cx hP (dMr (by decide)) rfl dX12_of_13 hF (fun v4 hF => ?_)
  exact r_iret cx hP hr hk dX12_of_14 (prF hF)
set_option maxHeartbeats 4000000 in
set_option maxRecDepth 100000 in
theorem w12_put (l : Launch) (Γ : Wc) (ad : Nat → Nat → Nat) (A : Nat → Prop) (p1 : Int32) (p2 : Int32) (p3 : Int32) (σ : Sig) (σ1 : Sig) (hF : f12_put p1 p2 p3 σ = some σ1) : MV l SM Γ ad A yX12_put cX12_put 4 0 0 [.ref (ad 0 0), .int p1, .int p2, .int p3] σ σ1 := by
  refine MV.of (by decide) (Nat.le_of_ble_eq_true rfl) ?_
  intro p e s m args below meth c ls cx hr hk hP hl
  have hl : lv_has ls 4 [(0, .ref (ad 0 0)), (1, .int p1), (2, .int p2), (3, .int p3)] := hl
  rw [f12_put] at hF
  refine r_aload_n cx dX12_put_0 (lv_at hl 0 rfl) ?_
  refine gf12_9 cx hP dX12_put_1 ?_
  refine r_bipush cx 76 dX12_put_4 (by decide) ?_
  refine r_iload_n cx dX12_put_6 (lv_at hl 1 rfl) ?_
  refine r_bipush cx 12 dX12_put_7 (by decide) ?_
  refine r_imul cx dX12_put_9 hF (fun v1 hF => ?_)
  refine r_iadd cx dX12_put_10 hF (fun v2 hF => ?_)
  refine r_iload_n cx dX12_put_11 (lv_at hl 2 rfl) ?_
  refine r_iadd cx dX12_put_12 hF (fun v3 hF => ?_)
  refine r_iload_n cx dX12_put_13 (lv_at hl 3 rfl) ?_
  refine r_iast cx hP (dMr (by decide)) (fun _ => rfl) dX12_put_14 hF (fun s4 H locs hP hF => ?_)
  exact r_vret cx hP hr hk dX12_put_15 hF
set_option maxHeartbeats 4000000 in
set_option maxRecDepth 100000 in
theorem w12_passOfCard (l : Launch) (Γ : Wc) (ad : Nat → Nat → Nat) (A : Nat → Prop) (p1 : Int32) (σ : Sig) (r : Int32) (hF : f12_passOfCard p1 σ = some r) : MI l SM Γ ad A yX12_passOfCard cX12_passOfCard 2 (some .int) 0 0 [.ref (ad 0 0), .int p1] σ r σ := by
  refine MI.of (by decide) (Nat.le_of_ble_eq_true rfl) ?_
  intro p e s m args below meth c ls cx hr hk hP hl
  have hl : lv_has ls 2 [(0, .ref (ad 0 0)), (1, .int p1)] := hl
  rw [f12_passOfCard] at hF
  refine r_aload_n cx dX12_passOfCard_0 (lv_at hl 0 rfl) ?_
  refine gf12_9 cx hP dX12_passOfCard_1 ?_
  refine r_sipush cx 436 dX12_passOfCard_4 (by decide) ?_
  refine r_iconst cx 2 dX12_passOfCard_7 (by decide) ?_
  refine r_iload_n cx dX12_passOfCard_8 (lv_at hl 1 rfl) ?_
  refine r_imul cx dX12_passOfCard_9 hF (fun v1 hF => ?_)
  refine r_iadd cx dX12_passOfCard_10 hF (fun v2 hF => ?_)
  refine r_iald cx hP (dMr (by decide)) rfl dX12_passOfCard_11 hF (fun v3 hF => ?_)
  exact r_iret cx hP hr hk dX12_passOfCard_12 (prF hF)
set_option maxHeartbeats 4000000 in
set_option maxRecDepth 100000 in
theorem w12_blocked (l : Launch) (Γ : Wc) (ad : Nat → Nat → Nat) (A : Nat → Prop) (p1 : Int32) (σ : Sig) (r : Int32) (hF : f12_blocked p1 σ = some r) : MI l SM Γ ad A yX12_blocked cX12_blocked 2 (some .boolean) 0 0 [.ref (ad 0 0), .int p1] σ r σ := by
  refine MI.of (by decide) (Nat.le_of_ble_eq_true rfl) ?_
  intro p e s m args below meth c ls cx hr hk hP hl
  have hl : lv_has ls 2 [(0, .ref (ad 0 0)), (1, .int p1)] := hl
  rw [f12_blocked] at hF
  refine r_aload_n cx dX12_blocked_0 (lv_at hl 0 rfl) ?_
  refine gf12_9 cx hP dX12_blocked_1 ?_
  refine r_sipush cx 436 dX12_blocked_4 (by decide) ?_
  refine r_iconst cx 2 dX12_blocked_7 (by decide) ?_
  refine r_iload_n cx dX12_blocked_8 (lv_at hl 1 rfl) ?_
  refine r_imul cx dX12_blocked_9 hF (fun v1 hF => ?_)
  refine r_iadd cx dX12_blocked_10 hF (fun v2 hF => ?_)
  refine r_iconst cx 1 dX12_blocked_11 (by decide) ?_
  refine r_iadd cx dX12_blocked_12 hF (fun v3 hF => ?_)
  refine r_iald cx hP (dMr (by decide)) rfl dX12_blocked_13 hF (fun v4 hF => ?_)
  refine r_iconst cx 1 dX12_blocked_14 (by decide) ?_
  refine r_icmp_ne cx 22 dX12_blocked_15 (by decide) hF (fun hF => ?_) (fun hF => ?_)
  · refine r_iconst cx 0 dX12_blocked_22 (by decide) ?_
    exact r_zret cx hP hr hk (by decide) dX12_blocked_23 (prF hF)
  · refine r_iconst cx 1 dX12_blocked_18 (by decide) ?_
    refine r_goto cx 23 dX12_blocked_19 (by decide) ?_
    exact r_zret cx hP hr hk (by decide) dX12_blocked_23 (prF hF)
set_option maxHeartbeats 4000000 in
set_option maxRecDepth 100000 in
theorem w12_today (l : Launch) (Γ : Wc) (ad : Nat → Nat → Nat) (A : Nat → Prop)  (σ : Sig) (r : Int32) (hF : f12_today  σ = some r) : MI l SM Γ ad A yX12_today cX12_today 1 (some .int) 0 0 [.ref (ad 0 0)] σ r σ := by
  refine MI.of (by decide) (Nat.le_of_ble_eq_true rfl) ?_
  intro p e s m args below meth c ls cx hr hk hP hl
  have hl : lv_has ls 1 [(0, .ref (ad 0 0))] := hl
  rw [f12_today] at hF
  refine r_aload_n cx dX12_today_0 (lv_at hl 0 rfl) ?_
  refine gf12_9 cx hP dX12_today_1 ?_
  refine r_iconst cx 4 dX12_today_4 (by decide) ?_
  refine r_iald cx hP (dMr (by decide)) rfl dX12_today_5 hF (fun v1 hF => ?_)
  refine r_bipush cx 96 dX12_today_6 (by decide) ?_
  refine r_idiv cx dX12_today_8 hF (fun v2 hF => ?_)
  exact r_iret cx hP hr hk dX12_today_9 (prF hF)
set_option maxHeartbeats 4000000 in
set_option maxRecDepth 100000 in
theorem w12_openAt (l : Launch) (Γ : Wc) (ad : Nat → Nat → Nat) (A : Nat → Prop) (p1 : Int32) (σ : Sig) (r : Int32) (hF : f12_openAt p1 σ = some r) : MI l SM Γ ad A yX12_openAt cX12_openAt 3 (some .boolean) 0 0 [.ref (ad 0 0), .int p1] σ r σ := by
  refine MI.of (by decide) (Nat.le_of_ble_eq_true rfl) ?_
  intro p e s m args below meth c ls cx hr hk hP hl
  have hl : lv_has ls 3 [(0, .ref (ad 0 0)), (1, .int p1)] := hl
  rw [f12_openAt] at hF
  generalize hH0 : s.heap = H0 at hP ⊢
  generalize ([] : List Loc) = locs0 at hP ⊢
  clear hH0
  have b44 : ∀ (H : Heap) (locs : List Loc) (ls : Array Slot), PS SM Γ ad A s σ H locs → lv_has ls 3 [] → f12_openAt_b44 σ = some r → W p l e (rmz 0 0) s m args below meth c H locs 0 0 (QI SM Γ ad A below args s r σ) (F0 m 44 ls []) := by
    intro H locs ls hP hl hF
    rw [f12_openAt_b44] at hF
    refine r_iconst cx 1 dX12_openAt_44 (by decide) ?_
    refine r_goto cx 49 dX12_openAt_45 (by decide) ?_
    exact r_zret cx hP hr hk (by decide) dX12_openAt_49 (prF hF)
  have b17 : ∀ (x1 : Int32) (t0 : Int32) (H : Heap) (locs : List Loc) (ls : Array Slot), PS SM Γ ad A s σ H locs → lv_has ls 3 [(0, .ref (ad 0 0)), (1, .int x1)] → f12_openAt_b17 x1 t0 σ = some r → W p l e (rmz 0 0) s m args below meth c H locs 0 0 (QI SM Γ ad A below args s r σ) (F0 m 17 ls [.int t0]) := by
    intro x1 t0 H locs ls hP hl hF
    rw [f12_openAt_b17] at hF
    refine r_istore_n cx [(2, .int t0), (0, .ref (ad 0 0)), (1, .int x1)] dX12_openAt_17 hl (by decide) rfl (fun ls hl => ?_)
    refine r_iload_n cx dX12_openAt_18 (lv_at hl 0 rfl) ?_
    refine r_if_eq cx 48 dX12_openAt_19 (by decide) hF (fun hF => ?_) (fun hF => ?_)
    · refine r_iconst cx 0 dX12_openAt_48 (by decide) ?_
      exact r_zret cx hP hr hk (by decide) dX12_openAt_49 (prF hF)
    · refine r_iload_n cx dX12_openAt_22 (lv_at hl 2 rfl) ?_
      refine r_aload_n cx dX12_openAt_23 (lv_at hl 1 rfl) ?_
      refine gf12_9 cx hP dX12_openAt_24 ?_
      refine r_bipush cx 7 dX12_openAt_27 (by decide) ?_
      refine r_iald cx hP (dMr (by decide)) rfl dX12_openAt_29 hF (fun v1 hF => ?_)
      refine r_icmp_lt cx 44 dX12_openAt_30 (by decide) hF (fun hF => ?_) (fun hF => ?_)
      · exact b44 _ _ _ hP (lv_sub hl [] rfl) hF
      · refine r_iload_n cx dX12_openAt_33 (lv_at hl 2 rfl) ?_
        refine r_aload_n cx dX12_openAt_34 (lv_at hl 1 rfl) ?_
        refine gf12_9 cx hP dX12_openAt_35 ?_
        refine r_bipush cx 8 dX12_openAt_38 (by decide) ?_
        refine r_iald cx hP (dMr (by decide)) rfl dX12_openAt_40 hF (fun v2 hF => ?_)
        refine r_icmp_le cx 48 dX12_openAt_41 (by decide) hF (fun hF => ?_) (fun hF => ?_)
        · refine r_iconst cx 0 dX12_openAt_48 (by decide) ?_
          exact r_zret cx hP hr hk (by decide) dX12_openAt_49 (prF hF)
        · exact b44 _ _ _ hP (lv_sub hl [] rfl) hF
  have b16 : ∀ (x1 : Int32) (H : Heap) (locs : List Loc) (ls : Array Slot), PS SM Γ ad A s σ H locs → lv_has ls 3 [(0, .ref (ad 0 0)), (1, .int x1)] → f12_openAt_b16 x1 σ = some r → W p l e (rmz 0 0) s m args below meth c H locs 0 0 (QI SM Γ ad A below args s r σ) (F0 m 16 ls []) := by
    intro x1 H locs ls hP hl hF
    rw [f12_openAt_b16] at hF
    refine r_iconst cx 0 dX12_openAt_16 (by decide) ?_
    exact b17 x1 0 _ _ _ hP (lv_sub hl [0, 1] rfl) hF
  refine r_iload_n cx dX12_openAt_0 (lv_at hl 1 rfl) ?_
  refine r_bipush cx 32 dX12_openAt_1 (by decide) ?_
  refine r_icmp_lt cx 16 dX12_openAt_3 (by decide) hF (fun hF => ?_) (fun hF => ?_)
  · exact b16 p1 _ _ _ hP (lv_sub hl [0, 1] rfl) hF
  · refine r_iload_n cx dX12_openAt_6 (lv_at hl 1 rfl) ?_
    refine r_bipush cx 67 dX12_openAt_7 (by decide) ?_
    refine r_icmp_gt cx 16 dX12_openAt_9 (by decide) hF (fun hF => ?_) (fun hF => ?_)
    · exact b16 p1 _ _ _ hP (lv_sub hl [0, 1] rfl) hF
    · refine r_iconst cx 1 dX12_openAt_12 (by decide) ?_
      refine r_goto cx 17 dX12_openAt_13 (by decide) ?_
      exact b17 p1 1 _ _ _ hP (lv_sub hl [0, 1] rfl) hF
set_option maxHeartbeats 4000000 in
set_option maxRecDepth 100000 in
theorem w12_openTicks (l : Launch) (Γ : Wc) (ad : Nat → Nat → Nat) (A : Nat → Prop)  (σ : Sig) (r : Int32) (hF : f12_openTicks  σ = some r) : MI l SM Γ ad A yX12_openTicks cX12_openTicks 3 (some .int) 1 22 [.ref (ad 0 0)] σ r σ := by
  refine MI.of (by decide) (Nat.le_of_ble_eq_true rfl) ?_
  intro p e s m args below meth c ls cx hr hk hP hl
  have hl : lv_has ls 3 [(0, .ref (ad 0 0))] := hl
  rw [f12_openTicks] at hF
  generalize hH0 : s.heap = H0 at hP ⊢
  generalize ([] : List Loc) = locs0 at hP ⊢
  clear hH0
  have b24 : ∀ (rc : Int32 → Int32 → Sig → Option (Int32)) (ih : ∀ (x1 : Int32) (x2 : Int32) (H : Heap) (locs : List Loc) (ls : Array Slot), PS SM Γ ad A s σ H locs → lv_has ls 3 [(0, .ref (ad 0 0)), (1, .int x1), (2, .int x2)] → rc x1 x2 σ = some r → W p l e (rmz 1 22) s m args below meth c H locs 0 0 (QI SM Γ ad A below args s r σ) (F0 m 4 ls [])) (x2 : Int32) (t0 : Int32) (t1 : Int32) (H : Heap) (locs : List Loc) (ls : Array Slot), PS SM Γ ad A s σ H locs → lv_has ls 3 [(0, .ref (ad 0 0)), (2, .int x2)] → f12_openTicks_b24 rc x2 t0 t1 σ = some r → W p l e (rmz 1 22) s m args below meth c H locs 0 0 (QI SM Γ ad A below args s r σ) (F0 m 24 ls [.int t1, .int t0]) := by
    intro rc ih x2 t0 t1 H locs ls hP hl hF
    rw [f12_openTicks_b24] at hF
    refine r_iadd cx dX12_openTicks_24 hF (fun v1 hF => ?_)
    refine r_istore_n cx [(1, .int v1), (0, .ref (ad 0 0)), (2, .int x2)] dX12_openTicks_25 hl (by decide) rfl (fun ls hl => ?_)
    refine r_iinc cx (k := 2) (w := 1) (fun v2 => [(2, .int v2), (1, .int v1), (0, .ref (ad 0 0))]) dX12_openTicks_26 hl rfl (by decide) (by decide) hF (fun _ => rfl) (fun v2 ls hF hl => ?_)
    refine r_goto cx 4 dX12_openTicks_29 (by decide) ?_
    exact ih v1 v2 _ _ _ hP (lv_sub hl [2, 1, 0] rfl) hF
  have b4 : ∀ (fu : Nat) (x1 : Int32) (x2 : Int32) (H : Heap) (locs : List Loc) (ls : Array Slot), PS SM Γ ad A s σ H locs → lv_has ls 3 [(0, .ref (ad 0 0)), (1, .int x1), (2, .int x2)] → f12_openTicks_b4 fu x1 x2 σ = some r → W p l e (rmz 1 22) s m args below meth c H locs 0 0 (QI SM Γ ad A below args s r σ) (F0 m 4 ls []) := by
    intro fu
    induction fu with
    | zero => intro x1 x2 H locs ls hP hl hF; exact nofu hF
    | succ fu ih =>
      intro x1 x2 H locs ls hP hl hF
      rw [f12_openTicks_b4] at hF
      refine r_iload_n cx dX12_openTicks_4 (lv_at hl 2 rfl) ?_
      refine r_bipush cx 96 dX12_openTicks_5 (by decide) ?_
      refine r_icmp_ge cx 32 dX12_openTicks_7 (by decide) hF (fun hF => ?_) (fun hF => ?_)
      · refine r_iload_n cx dX12_openTicks_32 (lv_at hl 1 rfl) ?_
        exact r_iret cx hP hr hk dX12_openTicks_33 (prF hF)
      · refine r_iload_n cx dX12_openTicks_10 (lv_at hl 1 rfl) ?_
        refine r_aload_n cx dX12_openTicks_11 (lv_at hl 0 rfl) ?_
        refine r_iload_n cx dX12_openTicks_12 (lv_at hl 2 rfl) ?_
        obtain ⟨v3, hc, hF⟩ := bnd_some hF
        refine r_callVi cx hP (As := [.int x2]) (w12_openAt l Γ ad A x2 σ v3 hc) mw12_77 ⟨Nat.le_of_ble_eq_true rfl, Nat.le_of_ble_eq_true rfl⟩ (dMr (by decide)) rfl rfl rfl (Nat.le_of_ble_eq_true rfl) hl.1 ⟨Nat.zero_le _, Nat.zero_le _⟩ dX12_openTicks_13 (fun H locs hP => ?_)
        refine r_if_eq cx 23 dX12_openTicks_16 (by decide) hF (fun hF => ?_) (fun hF => ?_)
        · refine r_iconst cx 0 dX12_openTicks_23 (by decide) ?_
          exact b24 (f12_openTicks_b4 fu) ih x2 x1 0 _ _ _ hP (lv_sub hl [0, 2] rfl) hF
        · refine r_iconst cx 1 dX12_openTicks_19 (by decide) ?_
          refine r_goto cx 24 dX12_openTicks_20 (by decide) ?_
          exact b24 (f12_openTicks_b4 fu) ih x2 x1 1 _ _ _ hP (lv_sub hl [0, 2] rfl) hF
  refine r_iconst cx 0 dX12_openTicks_0 (by decide) ?_
  refine r_istore_n cx [(1, .int 0), (0, .ref (ad 0 0))] dX12_openTicks_1 hl (by decide) rfl (fun ls hl => ?_)
  refine r_iconst cx 0 dX12_openTicks_2 (by decide) ?_
  refine r_istore_n cx [(2, .int 0), (1, .int 0), (0, .ref (ad 0 0))] dX12_openTicks_3 hl (by decide) rfl (fun ls hl => ?_)
  exact b4 FU 0 0 _ _ _ hP (lv_sub hl [2, 1, 0] rfl) hF
set_option maxHeartbeats 4000000 in
set_option maxRecDepth 100000 in
theorem w12_inSeason (l : Launch) (Γ : Wc) (ad : Nat → Nat → Nat) (A : Nat → Prop) (p1 : Int32) (σ : Sig) (r : Int32) (hF : f12_inSeason p1 σ = some r) : MI l SM Γ ad A yX12_inSeason cX12_inSeason 2 (some .boolean) 1 22 [.ref (ad 0 0), .int p1] σ r σ := by
  refine MI.of (by decide) (Nat.le_of_ble_eq_true rfl) ?_
  intro p e s m args below meth c ls cx hr hk hP hl
  have hl : lv_has ls 2 [(0, .ref (ad 0 0)), (1, .int p1)] := hl
  rw [f12_inSeason] at hF
  refine r_aload_n cx dX12_inSeason_0 (lv_at hl 0 rfl) ?_
  obtain ⟨v1, hc, hF⟩ := bnd_some hF
  refine r_callVi cx hP (As := []) (w12_today l Γ ad A σ v1 hc) mw12_81 ⟨Nat.le_of_ble_eq_true rfl, Nat.le_of_ble_eq_true rfl⟩ (dMr (by decide)) rfl rfl rfl (Nat.le_of_ble_eq_true rfl) hl.1 ⟨Nat.zero_le _, Nat.zero_le _⟩ dX12_inSeason_1 (fun H locs hP => ?_)
  refine r_aload_n cx dX12_inSeason_4 (lv_at hl 0 rfl) ?_
  refine r_iload_n cx dX12_inSeason_5 (lv_at hl 1 rfl) ?_
  refine r_iconst cx 2 dX12_inSeason_6 (by decide) ?_
  obtain ⟨v2, hc, hF⟩ := bnd_some hF
  refine r_callVi cx hP (As := [.int p1, .int 2]) (w12_bed l Γ ad A p1 2 σ v2 hc) mw12_85 ⟨Nat.le_of_ble_eq_true rfl, Nat.le_of_ble_eq_true rfl⟩ (dMr (by decide)) rfl rfl rfl (Nat.le_of_ble_eq_true rfl) hl.1 ⟨Nat.zero_le _, Nat.zero_le _⟩ dX12_inSeason_7 (fun H locs hP => ?_)
  refine r_icmp_lt cx 30 dX12_inSeason_10 (by decide) hF (fun hF => ?_) (fun hF => ?_)
  · refine r_iconst cx 0 dX12_inSeason_30 (by decide) ?_
    exact r_zret cx hP hr hk (by decide) dX12_inSeason_31 (prF hF)
  · refine r_aload_n cx dX12_inSeason_13 (lv_at hl 0 rfl) ?_
    obtain ⟨v3, hc, hF⟩ := bnd_some hF
    refine r_callVi cx hP (As := []) (w12_today l Γ ad A σ v3 hc) mw12_81 ⟨Nat.le_of_ble_eq_true rfl, Nat.le_of_ble_eq_true rfl⟩ (dMr (by decide)) rfl rfl rfl (Nat.le_of_ble_eq_true rfl) hl.1 ⟨Nat.zero_le _, Nat.zero_le _⟩ dX12_inSeason_14 (fun H locs hP => ?_)
    refine r_aload_n cx dX12_inSeason_17 (lv_at hl 0 rfl) ?_
    refine r_iload_n cx dX12_inSeason_18 (lv_at hl 1 rfl) ?_
    refine r_iconst cx 3 dX12_inSeason_19 (by decide) ?_
    obtain ⟨v4, hc, hF⟩ := bnd_some hF
    refine r_callVi cx hP (As := [.int p1, .int 3]) (w12_bed l Γ ad A p1 3 σ v4 hc) mw12_85 ⟨Nat.le_of_ble_eq_true rfl, Nat.le_of_ble_eq_true rfl⟩ (dMr (by decide)) rfl rfl rfl (Nat.le_of_ble_eq_true rfl) hl.1 ⟨Nat.zero_le _, Nat.zero_le _⟩ dX12_inSeason_20 (fun H locs hP => ?_)
    refine r_icmp_gt cx 30 dX12_inSeason_23 (by decide) hF (fun hF => ?_) (fun hF => ?_)
    · refine r_iconst cx 0 dX12_inSeason_30 (by decide) ?_
      exact r_zret cx hP hr hk (by decide) dX12_inSeason_31 (prF hF)
    · refine r_iconst cx 1 dX12_inSeason_26 (by decide) ?_
      refine r_goto cx 31 dX12_inSeason_27 (by decide) ?_
      exact r_zret cx hP hr hk (by decide) dX12_inSeason_31 (prF hF)
set_option maxHeartbeats 4000000 in
set_option maxRecDepth 100000 in
theorem w12_priceFor (l : Launch) (Γ : Wc) (ad : Nat → Nat → Nat) (A : Nat → Prop) (p1 : Int32) (p2 : Int32) (p3 : Int32) (σ : Sig) (r : Int32) (hF : f12_priceFor p1 p2 p3 σ = some r) : MI l SM Γ ad A yX12_priceFor cX12_priceFor 6 (some .int) 0 0 [.ref (ad 0 0), .int p1, .int p2, .int p3] σ r σ := by
  refine MI.of (by decide) (Nat.le_of_ble_eq_true rfl) ?_
  intro p e s m args below meth c ls cx hr hk hP hl
  have hl : lv_has ls 6 [(0, .ref (ad 0 0)), (1, .int p1), (2, .int p2), (3, .int p3)] := hl
  rw [f12_priceFor] at hF
  generalize hH0 : s.heap = H0 at hP ⊢
  generalize ([] : List Loc) = locs0 at hP ⊢
  clear hH0
  have b43 : ∀ (rc : Int32 → Int32 → Int32 → Int32 → Int32 → Sig → Option (Int32)) (ih : ∀ (x1 : Int32) (x2 : Int32) (x3 : Int32) (x4 : Int32) (x5 : Int32) (H : Heap) (locs : List Loc) (ls : Array Slot), PS SM Γ ad A s σ H locs → lv_has ls 6 [(0, .ref (ad 0 0)), (1, .int x1), (2, .int x2), (3, .int x3), (4, .int x4), (5, .int x5)] → rc x1 x2 x3 x4 x5 σ = some r → W p l e (rmz 0 0) s m args below meth c H locs 0 0 (QI SM Γ ad A below args s r σ) (F0 m 6 ls [])) (x1 : Int32) (x2 : Int32) (x3 : Int32) (x5 : Int32) (t0 : Int32) (t1 : Int32) (H : Heap) (locs : List Loc) (ls : Array Slot), PS SM Γ ad A s σ H locs → lv_has ls 6 [(0, .ref (ad 0 0)), (1, .int x1), (2, .int x2), (3, .int x3), (5, .int x5)] → f12_priceFor_b43 rc x1 x2 x3 x5 t0 t1 σ = some r → W p l e (rmz 0 0) s m args below meth c H locs 0 0 (QI SM Γ ad A below args s r σ) (F0 m 43 ls [.int t1, .int t0]) := by
    intro rc ih x1 x2 x3 x5 t0 t1 H locs ls hP hl hF
    rw [f12_priceFor_b43] at hF
    refine r_iadd cx dX12_priceFor_43 hF (fun v1 hF => ?_)
    refine r_istore cx [(4, .int v1), (0, .ref (ad 0 0)), (1, .int x1), (2, .int x2), (3, .int x3), (5, .int x5)] dX12_priceFor_44 hl (by decide) rfl (fun ls hl => ?_)
    refine r_iinc cx (k := 5) (w := 1) (fun v2 => [(5, .int v2), (4, .int v1), (0, .ref (ad 0 0)), (1, .int x1), (2, .int x2), (3, .int x3)]) dX12_priceFor_46 hl rfl (by decide) (by decide) hF (fun _ => rfl) (fun v2 ls hF hl => ?_)
    refine r_goto cx 6 dX12_priceFor_49 (by decide) ?_
    exact ih x1 x2 x3 v1 v2 _ _ _ hP (lv_sub hl [2, 3, 4, 5, 1, 0] rfl) hF
  have b92 : ∀ (x5 : Int32) (t0 : Int32) (t1 : Int32) (H : Heap) (locs : List Loc) (ls : Array Slot), PS SM Γ ad A s σ H locs → lv_has ls 6 [(5, .int x5)] → f12_priceFor_b92 x5 t0 t1 σ = some r → W p l e (rmz 0 0) s m args below meth c H locs 0 0 (QI SM Γ ad A below args s r σ) (F0 m 92 ls [.int t1, .int t0]) := by
    intro x5 t0 t1 H locs ls hP hl hF
    rw [f12_priceFor_b92] at hF
    refine r_imul cx dX12_priceFor_92 hF (fun v3 hF => ?_)
    refine r_iload cx dX12_priceFor_93 (lv_at hl 0 rfl) ?_
    refine r_imul cx dX12_priceFor_95 hF (fun v4 hF => ?_)
    refine r_sipush cx 10000 dX12_priceFor_96 (by decide) ?_
    refine r_idiv cx dX12_priceFor_99 hF (fun v5 hF => ?_)
    exact r_iret cx hP hr hk dX12_priceFor_100 (prF hF)
  have b75 : ∀ (x2 : Int32) (x3 : Int32) (x4 : Int32) (t0 : Int32) (H : Heap) (locs : List Loc) (ls : Array Slot), PS SM Γ ad A s σ H locs → lv_has ls 6 [(2, .int x2), (3, .int x3), (4, .int x4)] → f12_priceFor_b75 x2 x3 x4 t0 σ = some r → W p l e (rmz 0 0) s m args below meth c H locs 0 0 (QI SM Γ ad A below args s r σ) (F0 m 75 ls [.int t0]) := by
    intro x2 x3 x4 t0 H locs ls hP hl hF
    rw [f12_priceFor_b75] at hF
    refine r_istore cx [(5, .int t0), (2, .int x2), (3, .int x3), (4, .int x4)] dX12_priceFor_75 hl (by decide) rfl (fun ls hl => ?_)
    refine r_iload cx dX12_priceFor_77 (lv_at hl 3 rfl) ?_
    refine r_iload_n cx dX12_priceFor_79 (lv_at hl 1 rfl) ?_
    refine r_imul cx dX12_priceFor_80 hF (fun v6 hF => ?_)
    refine r_iload_n cx dX12_priceFor_81 (lv_at hl 2 rfl) ?_
    refine r_if_ne cx 90 dX12_priceFor_82 (by decide) hF (fun hF => ?_) (fun hF => ?_)
    · refine r_bipush cx 60 dX12_priceFor_90 (by decide) ?_
      exact b92 t0 v6 60 _ _ _ hP (lv_sub hl [0] rfl) hF
    · refine r_bipush cx 100 dX12_priceFor_85 (by decide) ?_
      refine r_goto cx 92 dX12_priceFor_87 (by decide) ?_
      exact b92 t0 v6 100 _ _ _ hP (lv_sub hl [0] rfl) hF
  have b6 : ∀ (fu : Nat) (x1 : Int32) (x2 : Int32) (x3 : Int32) (x4 : Int32) (x5 : Int32) (H : Heap) (locs : List Loc) (ls : Array Slot), PS SM Γ ad A s σ H locs → lv_has ls 6 [(0, .ref (ad 0 0)), (1, .int x1), (2, .int x2), (3, .int x3), (4, .int x4), (5, .int x5)] → f12_priceFor_b6 fu x1 x2 x3 x4 x5 σ = some r → W p l e (rmz 0 0) s m args below meth c H locs 0 0 (QI SM Γ ad A below args s r σ) (F0 m 6 ls []) := by
    intro fu
    induction fu with
    | zero => intro x1 x2 x3 x4 x5 H locs ls hP hl hF; exact nofu hF
    | succ fu ih =>
      intro x1 x2 x3 x4 x5 H locs ls hP hl hF
      rw [f12_priceFor_b6] at hF
      refine r_iload cx dX12_priceFor_6 (lv_at hl 5 rfl) ?_
      refine r_aload_n cx dX12_priceFor_8 (lv_at hl 0 rfl) ?_
      refine gf12_9 cx hP dX12_priceFor_9 ?_
      refine r_iconst cx 0 dX12_priceFor_12 (by decide) ?_
      refine r_iald cx hP (dMr (by decide)) rfl dX12_priceFor_13 hF (fun v7 hF => ?_)
      refine r_icmp_ge cx 52 dX12_priceFor_14 (by decide) hF (fun hF => ?_) (fun hF => ?_)
      · refine r_iload_n cx dX12_priceFor_52 (lv_at hl 2 rfl) ?_
        refine r_bipush cx 6 dX12_priceFor_53 (by decide) ?_
        refine r_icmp_lt cx 63 dX12_priceFor_55 (by decide) hF (fun hF => ?_) (fun hF => ?_)
        · refine r_iload_n cx dX12_priceFor_63 (lv_at hl 2 rfl) ?_
          refine r_iconst cx 3 dX12_priceFor_64 (by decide) ?_
          refine r_icmp_lt cx 73 dX12_priceFor_65 (by decide) hF (fun hF => ?_) (fun hF => ?_)
          · refine r_bipush cx 100 dX12_priceFor_73 (by decide) ?_
            exact b75 x2 x3 x4 100 _ _ _ hP (lv_sub hl [2, 3, 4] rfl) hF
          · refine r_bipush cx 90 dX12_priceFor_68 (by decide) ?_
            refine r_goto cx 75 dX12_priceFor_70 (by decide) ?_
            exact b75 x2 x3 x4 90 _ _ _ hP (lv_sub hl [2, 3, 4] rfl) hF
        · refine r_bipush cx 80 dX12_priceFor_58 (by decide) ?_
          refine r_goto cx 75 dX12_priceFor_60 (by decide) ?_
          exact b75 x2 x3 x4 80 _ _ _ hP (lv_sub hl [2, 3, 4] rfl) hF
      · refine r_iload cx dX12_priceFor_17 (lv_at hl 4 rfl) ?_
        refine r_iload_n cx dX12_priceFor_19 (lv_at hl 1 rfl) ?_
        refine r_iload cx dX12_priceFor_20 (lv_at hl 5 rfl) ?_
        refine r_ishr cx dX12_priceFor_22 hF (fun v8 hF => ?_)
        refine r_iconst cx 1 dX12_priceFor_23 (by decide) ?_
        refine r_iand cx dX12_priceFor_24 hF (fun v9 hF => ?_)
        refine r_iconst cx 1 dX12_priceFor_25 (by decide) ?_
        refine r_icmp_ne cx 42 dX12_priceFor_26 (by decide) hF (fun hF => ?_) (fun hF => ?_)
        · refine r_iconst cx 0 dX12_priceFor_42 (by decide) ?_
          exact b43 (f12_priceFor_b6 fu) ih x1 x2 x3 x5 x4 0 _ _ _ hP (lv_sub hl [0, 1, 2, 3, 5] rfl) hF
        · refine r_aload_n cx dX12_priceFor_29 (lv_at hl 0 rfl) ?_
          refine gf12_9 cx hP dX12_priceFor_30 ?_
          refine r_bipush cx 15 dX12_priceFor_33 (by decide) ?_
          refine r_iload cx dX12_priceFor_35 (lv_at hl 5 rfl) ?_
          refine r_iadd cx dX12_priceFor_37 hF (fun v10 hF => ?_)
          refine r_iald cx hP (dMr (by decide)) rfl dX12_priceFor_38 hF (fun v11 hF => ?_)
          refine r_goto cx 43 dX12_priceFor_39 (by decide) ?_
          exact b43 (f12_priceFor_b6 fu) ih x1 x2 x3 x5 x4 v11 _ _ _ hP (lv_sub hl [0, 1, 2, 3, 5] rfl) hF
  refine r_iconst cx 0 dX12_priceFor_0 (by decide) ?_
  refine r_istore cx [(4, .int 0), (0, .ref (ad 0 0)), (1, .int p1), (2, .int p2), (3, .int p3)] dX12_priceFor_1 hl (by decide) rfl (fun ls hl => ?_)
  refine r_iconst cx 0 dX12_priceFor_3 (by decide) ?_
  refine r_istore cx [(5, .int 0), (4, .int 0), (0, .ref (ad 0 0)), (1, .int p1), (2, .int p2), (3, .int p3)] dX12_priceFor_4 hl (by decide) rfl (fun ls hl => ?_)
  exact b6 FU p1 p2 p3 0 0 _ _ _ hP (lv_sub hl [2, 3, 4, 5, 1, 0] rfl) hF
set_option maxHeartbeats 4000000 in
set_option maxRecDepth 100000 in
theorem w12_lastOf (l : Launch) (Γ : Wc) (ad : Nat → Nat → Nat) (A : Nat → Prop) (p1 : Int32) (σ : Sig) (r : Int32) (hF : f12_lastOf p1 σ = some r) : MI l SM Γ ad A yX12_lastOf cX12_lastOf 2 (some .int) 1 22 [.ref (ad 0 0), .int p1] σ r σ := by
  refine MI.of (by decide) (Nat.le_of_ble_eq_true rfl) ?_
  intro p e s m args below meth c ls cx hr hk hP hl
  have hl : lv_has ls 2 [(0, .ref (ad 0 0)), (1, .int p1)] := hl
  rw [f12_lastOf] at hF
  refine r_aload_n cx dX12_lastOf_0 (lv_at hl 0 rfl) ?_
  refine r_iload_n cx dX12_lastOf_1 (lv_at hl 1 rfl) ?_
  refine r_iconst cx 1 dX12_lastOf_2 (by decide) ?_
  obtain ⟨v1, hc, hF⟩ := bnd_some hF
  refine r_callVi cx hP (As := [.int p1, .int 1]) (w12_of l Γ ad A p1 1 σ v1 hc) mw12_88 ⟨Nat.le_of_ble_eq_true rfl, Nat.le_of_ble_eq_true rfl⟩ (dMr (by decide)) rfl rfl rfl (Nat.le_of_ble_eq_true rfl) hl.1 ⟨Nat.zero_le _, Nat.zero_le _⟩ dX12_lastOf_3 (fun H locs hP => ?_)
  refine r_aload_n cx dX12_lastOf_6 (lv_at hl 0 rfl) ?_
  refine r_iload_n cx dX12_lastOf_7 (lv_at hl 1 rfl) ?_
  refine r_iconst cx 2 dX12_lastOf_8 (by decide) ?_
  obtain ⟨v2, hc, hF⟩ := bnd_some hF
  refine r_callVi cx hP (As := [.int p1, .int 2]) (w12_of l Γ ad A p1 2 σ v2 hc) mw12_88 ⟨Nat.le_of_ble_eq_true rfl, Nat.le_of_ble_eq_true rfl⟩ (dMr (by decide)) rfl rfl rfl (Nat.le_of_ble_eq_true rfl) hl.1 ⟨Nat.zero_le _, Nat.zero_le _⟩ dX12_lastOf_9 (fun H locs hP => ?_)
  refine r_iadd cx dX12_lastOf_12 hF (fun v3 hF => ?_)
  refine r_iconst cx 1 dX12_lastOf_13 (by decide) ?_
  refine r_isub cx dX12_lastOf_14 hF (fun v4 hF => ?_)
  exact r_iret cx hP hr hk dX12_lastOf_15 (prF hF)
set_option maxHeartbeats 4000000 in
set_option maxRecDepth 100000 in
theorem w12_fine (l : Launch) (Γ : Wc) (ad : Nat → Nat → Nat) (A : Nat → Prop) (p1 : Int32) (p2 : Int32) (σ : Sig) (r : Int32) (hF : f12_fine p1 p2 σ = some r) : MI l SM Γ ad A yX12_fine cX12_fine 3 (some .int) 2 43 [.ref (ad 0 0), .int p1, .int p2] σ r σ := by
  refine MI.of (by decide) (Nat.le_of_ble_eq_true rfl) ?_
  intro p e s m args below meth c ls cx hr hk hP hl
  have hl : lv_has ls 3 [(0, .ref (ad 0 0)), (1, .int p1), (2, .int p2)] := hl
  rw [f12_fine] at hF
  generalize hH0 : s.heap = H0 at hP ⊢
  generalize ([] : List Loc) = locs0 at hP ⊢
  clear hH0
  have b21 : ∀ (t0 : Int32) (t1 : Int32) (H : Heap) (locs : List Loc) (ls : Array Slot), PS SM Γ ad A s σ H locs → lv_has ls 3 [] → f12_fine_b21 t0 t1 σ = some r → W p l e (rmz 2 43) s m args below meth c H locs 0 0 (QI SM Γ ad A below args s r σ) (F0 m 21 ls [.int t1, .int t0]) := by
    intro t0 t1 H locs ls hP hl hF
    rw [f12_fine_b21] at hF
    refine r_imul cx dX12_fine_21 hF (fun v1 hF => ?_)
    exact r_iret cx hP hr hk dX12_fine_22 (prF hF)
  refine r_iload_n cx dX12_fine_0 (lv_at hl 2 rfl) ?_
  refine r_aload_n cx dX12_fine_1 (lv_at hl 0 rfl) ?_
  refine gf12_9 cx hP dX12_fine_2 ?_
  refine r_iconst cx 5 dX12_fine_5 (by decide) ?_
  refine r_iald cx hP (dMr (by decide)) rfl dX12_fine_6 hF (fun v2 hF => ?_)
  refine r_imul cx dX12_fine_7 hF (fun v3 hF => ?_)
  refine r_aload_n cx dX12_fine_8 (lv_at hl 0 rfl) ?_
  refine r_iload_n cx dX12_fine_9 (lv_at hl 1 rfl) ?_
  obtain ⟨v4, hc, hF⟩ := bnd_some hF
  refine r_callVi cx hP (As := [.int p1]) (w12_inSeason l Γ ad A p1 σ v4 hc) mw12_91 ⟨Nat.le_of_ble_eq_true rfl, Nat.le_of_ble_eq_true rfl⟩ (dMr (by decide)) rfl rfl rfl (Nat.le_of_ble_eq_true rfl) hl.1 ⟨Nat.zero_le _, Nat.zero_le _⟩ dX12_fine_10 (fun H locs hP => ?_)
  refine r_if_eq cx 20 dX12_fine_13 (by decide) hF (fun hF => ?_) (fun hF => ?_)
  · refine r_iconst cx 1 dX12_fine_20 (by decide) ?_
    exact b21 v3 1 _ _ _ hP (lv_sub hl [] rfl) hF
  · refine r_iconst cx 2 dX12_fine_16 (by decide) ?_
    refine r_goto cx 21 dX12_fine_17 (by decide) ?_
    exact b21 v3 2 _ _ _ hP (lv_sub hl [] rfl) hF
set_option maxHeartbeats 4000000 in
set_option maxRecDepth 100000 in
theorem w12_refund (l : Launch) (Γ : Wc) (ad : Nat → Nat → Nat) (A : Nat → Prop) (p1 : Int32) (σ : Sig) (r : Int32) (hF : f12_refund p1 σ = some r) : MI l SM Γ ad A yX12_refund cX12_refund 5 (some .int) 1 22 [.ref (ad 0 0), .int p1] σ r σ := by
  refine MI.of (by decide) (Nat.le_of_ble_eq_true rfl) ?_
  intro p e s m args below meth c ls cx hr hk hP hl
  have hl : lv_has ls 5 [(0, .ref (ad 0 0)), (1, .int p1)] := hl
  rw [f12_refund] at hF
  generalize hH0 : s.heap = H0 at hP ⊢
  generalize ([] : List Loc) = locs0 at hP ⊢
  clear hH0
  have b74 : ∀ (rc : Int32 → Int32 → Int32 → Sig → Option (Int32)) (ih : ∀ (x1 : Int32) (x2 : Int32) (x3 : Int32) (H : Heap) (locs : List Loc) (ls : Array Slot), PS SM Γ ad A s σ H locs → lv_has ls 5 [(0, .ref (ad 0 0)), (1, .int x1), (2, .int x2), (3, .int x3)] → rc x1 x2 x3 σ = some r → W p l e (rmz 1 22) s m args below meth c H locs 0 0 (QI SM Γ ad A below args s r σ) (F0 m 17 ls [])) (x1 : Int32) (x3 : Int32) (t0 : Int32) (t1 : Int32) (H : Heap) (locs : List Loc) (ls : Array Slot), PS SM Γ ad A s σ H locs → lv_has ls 5 [(0, .ref (ad 0 0)), (1, .int x1), (3, .int x3)] → f12_refund_b74 rc x1 x3 t0 t1 σ = some r → W p l e (rmz 1 22) s m args below meth c H locs 0 0 (QI SM Γ ad A below args s r σ) (F0 m 74 ls [.int t1, .int t0]) := by
    intro rc ih x1 x3 t0 t1 H locs ls hP hl hF
    rw [f12_refund_b74] at hF
    refine r_iadd cx dX12_refund_74 hF (fun v1 hF => ?_)
    refine r_istore_n cx [(2, .int v1), (0, .ref (ad 0 0)), (1, .int x1), (3, .int x3)] dX12_refund_75 hl (by decide) rfl (fun ls hl => ?_)
    refine r_iinc cx (k := 3) (w := 1) (fun v2 => [(3, .int v2), (2, .int v1), (0, .ref (ad 0 0)), (1, .int x1)]) dX12_refund_76 hl rfl (by decide) (by decide) hF (fun _ => rfl) (fun v2 ls hF hl => ?_)
    refine r_goto cx 17 dX12_refund_79 (by decide) ?_
    exact ih x1 v1 v2 _ _ _ hP (lv_sub hl [2, 3, 1, 0] rfl) hF
  have b73 : ∀ (rc : Int32 → Int32 → Int32 → Sig → Option (Int32)) (ih : ∀ (x1 : Int32) (x2 : Int32) (x3 : Int32) (H : Heap) (locs : List Loc) (ls : Array Slot), PS SM Γ ad A s σ H locs → lv_has ls 5 [(0, .ref (ad 0 0)), (1, .int x1), (2, .int x2), (3, .int x3)] → rc x1 x2 x3 σ = some r → W p l e (rmz 1 22) s m args below meth c H locs 0 0 (QI SM Γ ad A below args s r σ) (F0 m 17 ls [])) (x1 : Int32) (x3 : Int32) (t0 : Int32) (H : Heap) (locs : List Loc) (ls : Array Slot), PS SM Γ ad A s σ H locs → lv_has ls 5 [(0, .ref (ad 0 0)), (1, .int x1), (3, .int x3)] → f12_refund_b73 rc x1 x3 t0 σ = some r → W p l e (rmz 1 22) s m args below meth c H locs 0 0 (QI SM Γ ad A below args s r σ) (F0 m 73 ls [.int t0]) := by
    intro rc ih x1 x3 t0 H locs ls hP hl hF
    rw [f12_refund_b73] at hF
    refine r_iconst cx 0 dX12_refund_73 (by decide) ?_
    exact b74 rc ih x1 x3 t0 0 _ _ _ hP (lv_sub hl [0, 1, 2] rfl) hF
  have b46 : ∀ (rc : Int32 → Int32 → Int32 → Sig → Option (Int32)) (ih : ∀ (x1 : Int32) (x2 : Int32) (x3 : Int32) (H : Heap) (locs : List Loc) (ls : Array Slot), PS SM Γ ad A s σ H locs → lv_has ls 5 [(0, .ref (ad 0 0)), (1, .int x1), (2, .int x2), (3, .int x3)] → rc x1 x2 x3 σ = some r → W p l e (rmz 1 22) s m args below meth c H locs 0 0 (QI SM Γ ad A below args s r σ) (F0 m 17 ls [])) (x1 : Int32) (x2 : Int32) (x3 : Int32) (t0 : Int32) (H : Heap) (locs : List Loc) (ls : Array Slot), PS SM Γ ad A s σ H locs → lv_has ls 5 [(0, .ref (ad 0 0)), (1, .int x1), (2, .int x2), (3, .int x3)] → f12_refund_b46 rc x1 x2 x3 t0 σ = some r → W p l e (rmz 1 22) s m args below meth c H locs 0 0 (QI SM Γ ad A below args s r σ) (F0 m 46 ls [.int t0]) := by
    intro rc ih x1 x2 x3 t0 H locs ls hP hl hF
    rw [f12_refund_b46] at hF
    refine r_istore cx [(4, .int t0), (0, .ref (ad 0 0)), (1, .int x1), (2, .int x2), (3, .int x3)] dX12_refund_46 hl (by decide) rfl (fun ls hl => ?_)
    refine r_iload_n cx dX12_refund_48 (lv_at hl 3 rfl) ?_
    refine r_iload cx dX12_refund_49 (lv_at hl 0 rfl) ?_
    refine r_if_eq cx 73 dX12_refund_51 (by decide) hF (fun hF => ?_) (fun hF => ?_)
    · exact b73 rc ih x1 x3 x2 _ _ _ hP (lv_sub hl [1, 2, 4] rfl) hF
    · refine r_aload_n cx dX12_refund_54 (lv_at hl 1 rfl) ?_
      refine r_iload_n cx dX12_refund_55 (lv_at hl 2 rfl) ?_
      refine r_iconst cx 1 dX12_refund_56 (by decide) ?_
      obtain ⟨v3, hc, hF⟩ := bnd_some hF
      refine r_callVi cx hP (As := [.int x1, .int 1]) (w12_of l Γ ad A x1 1 σ v3 hc) mw12_88 ⟨Nat.le_of_ble_eq_true rfl, Nat.le_of_ble_eq_true rfl⟩ (dMr (by decide)) rfl rfl rfl (Nat.le_of_ble_eq_true rfl) hl.1 ⟨Nat.zero_le _, Nat.zero_le _⟩ dX12_refund_57 (fun H locs hP => ?_)
      refine r_iload_n cx dX12_refund_60 (lv_at hl 4 rfl) ?_
      refine r_iadd cx dX12_refund_61 hF (fun v4 hF => ?_)
      refine r_aload_n cx dX12_refund_62 (lv_at hl 1 rfl) ?_
      obtain ⟨v5, hc, hF⟩ := bnd_some hF
      refine r_callVi cx hP (As := []) (w12_today l Γ ad A σ v5 hc) mw12_81 ⟨Nat.le_of_ble_eq_true rfl, Nat.le_of_ble_eq_true rfl⟩ (dMr (by decide)) rfl rfl rfl (Nat.le_of_ble_eq_true rfl) hl.1 ⟨Nat.zero_le _, Nat.zero_le _⟩ dX12_refund_63 (fun H locs hP => ?_)
      refine r_icmp_lt cx 73 dX12_refund_66 (by decide) hF (fun hF => ?_) (fun hF => ?_)
      · exact b73 rc ih x1 x3 x2 _ _ _ hP (lv_sub hl [1, 2, 4] rfl) hF
      · refine r_iconst cx 1 dX12_refund_69 (by decide) ?_
        refine r_goto cx 74 dX12_refund_70 (by decide) ?_
        exact b74 rc ih x1 x3 x2 1 _ _ _ hP (lv_sub hl [1, 2, 4] rfl) hF
  have b17 : ∀ (fu : Nat) (x1 : Int32) (x2 : Int32) (x3 : Int32) (H : Heap) (locs : List Loc) (ls : Array Slot), PS SM Γ ad A s σ H locs → lv_has ls 5 [(0, .ref (ad 0 0)), (1, .int x1), (2, .int x2), (3, .int x3)] → f12_refund_b17 fu x1 x2 x3 σ = some r → W p l e (rmz 1 22) s m args below meth c H locs 0 0 (QI SM Γ ad A below args s r σ) (F0 m 17 ls []) := by
    intro fu
    induction fu with
    | zero => intro x1 x2 x3 H locs ls hP hl hF; exact nofu hF
    | succ fu ih =>
      intro x1 x2 x3 H locs ls hP hl hF
      rw [f12_refund_b17] at hF
      refine r_iload_n cx dX12_refund_17 (lv_at hl 3 rfl) ?_
      refine r_aload_n cx dX12_refund_18 (lv_at hl 0 rfl) ?_
      refine r_iload_n cx dX12_refund_19 (lv_at hl 1 rfl) ?_
      refine r_iconst cx 2 dX12_refund_20 (by decide) ?_
      obtain ⟨v6, hc, hF⟩ := bnd_some hF
      refine r_callVi cx hP (As := [.int x1, .int 2]) (w12_of l Γ ad A x1 2 σ v6 hc) mw12_88 ⟨Nat.le_of_ble_eq_true rfl, Nat.le_of_ble_eq_true rfl⟩ (dMr (by decide)) rfl rfl rfl (Nat.le_of_ble_eq_true rfl) hl.1 ⟨Nat.zero_le _, Nat.zero_le _⟩ dX12_refund_21 (fun H locs hP => ?_)
      refine r_icmp_ge cx 82 dX12_refund_24 (by decide) hF (fun hF => ?_) (fun hF => ?_)
      · refine r_aload_n cx dX12_refund_82 (lv_at hl 0 rfl) ?_
        refine r_iload_n cx dX12_refund_83 (lv_at hl 1 rfl) ?_
        refine r_iconst cx 4 dX12_refund_84 (by decide) ?_
        obtain ⟨v7, hc, hF⟩ := bnd_some hF
        refine r_callVi cx hP (As := [.int x1, .int 4]) (w12_of l Γ ad A x1 4 σ v7 hc) mw12_88 ⟨Nat.le_of_ble_eq_true rfl, Nat.le_of_ble_eq_true rfl⟩ (dMr (by decide)) rfl rfl rfl (Nat.le_of_ble_eq_true rfl) hl.1 ⟨Nat.zero_le _, Nat.zero_le _⟩ dX12_refund_85 (fun H locs hP => ?_)
        refine r_iload_n cx dX12_refund_88 (lv_at hl 2 rfl) ?_
        refine r_imul cx dX12_refund_89 hF (fun v8 hF => ?_)
        refine r_aload_n cx dX12_refund_90 (lv_at hl 0 rfl) ?_
        refine r_iload_n cx dX12_refund_91 (lv_at hl 1 rfl) ?_
        refine r_iconst cx 2 dX12_refund_92 (by decide) ?_
        obtain ⟨v9, hc, hF⟩ := bnd_some hF
        refine r_callVi cx hP (As := [.int x1, .int 2]) (w12_of l Γ ad A x1 2 σ v9 hc) mw12_88 ⟨Nat.le_of_ble_eq_true rfl, Nat.le_of_ble_eq_true rfl⟩ (dMr (by decide)) rfl rfl rfl (Nat.le_of_ble_eq_true rfl) hl.1 ⟨Nat.zero_le _, Nat.zero_le _⟩ dX12_refund_93 (fun H locs hP => ?_)
        refine r_idiv cx dX12_refund_96 hF (fun v10 hF => ?_)
        refine r_iconst cx 2 dX12_refund_97 (by decide) ?_
        refine r_idiv cx dX12_refund_98 hF (fun v11 hF => ?_)
        exact r_iret cx hP hr hk dX12_refund_99 (prF hF)
      · refine r_aload_n cx dX12_refund_27 (lv_at hl 0 rfl) ?_
        refine r_iload_n cx dX12_refund_28 (lv_at hl 1 rfl) ?_
        refine r_bipush cx 7 dX12_refund_29 (by decide) ?_
        obtain ⟨v12, hc, hF⟩ := bnd_some hF
        refine r_callVi cx hP (As := [.int x1, .int 7]) (w12_of l Γ ad A x1 7 σ v12 hc) mw12_88 ⟨Nat.le_of_ble_eq_true rfl, Nat.le_of_ble_eq_true rfl⟩ (dMr (by decide)) rfl rfl rfl (Nat.le_of_ble_eq_true rfl) hl.1 ⟨Nat.zero_le _, Nat.zero_le _⟩ dX12_refund_31 (fun H locs hP => ?_)
        refine r_iload_n cx dX12_refund_34 (lv_at hl 3 rfl) ?_
        refine r_ishr cx dX12_refund_35 hF (fun v13 hF => ?_)
        refine r_iconst cx 1 dX12_refund_36 (by decide) ?_
        refine r_iand cx dX12_refund_37 hF (fun v14 hF => ?_)
        refine r_if_ne cx 45 dX12_refund_38 (by decide) hF (fun hF => ?_) (fun hF => ?_)
        · refine r_iconst cx 0 dX12_refund_45 (by decide) ?_
          exact b46 (f12_refund_b17 fu) ih x1 x2 x3 0 _ _ _ hP (lv_sub hl [0, 1, 2, 3] rfl) hF
        · refine r_iconst cx 1 dX12_refund_41 (by decide) ?_
          refine r_goto cx 46 dX12_refund_42 (by decide) ?_
          exact b46 (f12_refund_b17 fu) ih x1 x2 x3 1 _ _ _ hP (lv_sub hl [0, 1, 2, 3] rfl) hF
  refine r_aload_n cx dX12_refund_0 (lv_at hl 0 rfl) ?_
  refine r_iload_n cx dX12_refund_1 (lv_at hl 1 rfl) ?_
  refine r_bipush cx 6 dX12_refund_2 (by decide) ?_
  obtain ⟨v15, hc, hF⟩ := bnd_some hF
  refine r_callVi cx hP (As := [.int p1, .int 6]) (w12_of l Γ ad A p1 6 σ v15 hc) mw12_88 ⟨Nat.le_of_ble_eq_true rfl, Nat.le_of_ble_eq_true rfl⟩ (dMr (by decide)) rfl rfl rfl (Nat.le_of_ble_eq_true rfl) hl.1 ⟨Nat.zero_le _, Nat.zero_le _⟩ dX12_refund_4 (fun H locs hP => ?_)
  refine r_iconst cx 1 dX12_refund_7 (by decide) ?_
  refine r_icmp_ne cx 13 dX12_refund_8 (by decide) hF (fun hF => ?_) (fun hF => ?_)
  · refine r_iconst cx 0 dX12_refund_13 (by decide) ?_
    refine r_istore_n cx [(2, .int 0), (0, .ref (ad 0 0)), (1, .int p1)] dX12_refund_14 hl (by decide) rfl (fun ls hl => ?_)
    refine r_iconst cx 0 dX12_refund_15 (by decide) ?_
    refine r_istore_n cx [(3, .int 0), (2, .int 0), (0, .ref (ad 0 0)), (1, .int p1)] dX12_refund_16 hl (by decide) rfl (fun ls hl => ?_)
    exact b17 FU p1 0 0 _ _ _ hP (lv_sub hl [2, 3, 1, 0] rfl) hF
  · refine r_iconst cx 0 dX12_refund_11 (by decide) ?_
    exact r_iret cx hP hr hk dX12_refund_12 (prF hF)
set_option maxHeartbeats 4000000 in
set_option maxRecDepth 100000 in
theorem w12_addScentAt (l : Launch) (Γ : Wc) (ad : Nat → Nat → Nat) (A : Nat → Prop) (p1 : Int32) (σ : Sig) (σ1 : Sig) (hF : f12_addScentAt p1 σ = some σ1) : MV l SM Γ ad A yX12_addScentAt cX12_addScentAt 2 0 0 [.ref (ad 0 0), .int p1] σ σ1 := by
  refine MV.of (by decide) (Nat.le_of_ble_eq_true rfl) ?_
  intro p e s m args below meth c ls cx hr hk hP hl
  have hl : lv_has ls 2 [(0, .ref (ad 0 0)), (1, .int p1)] := hl
  rw [f12_addScentAt] at hF
  refine r_aload_n cx dX12_addScentAt_0 (lv_at hl 0 rfl) ?_
  refine gf12_9 cx hP dX12_addScentAt_1 ?_
  refine r_bipush cx 15 dX12_addScentAt_4 (by decide) ?_
  refine r_aload_n cx dX12_addScentAt_6 (lv_at hl 0 rfl) ?_
  refine gf12_9 cx hP dX12_addScentAt_7 ?_
  refine r_iconst cx 0 dX12_addScentAt_10 (by decide) ?_
  refine r_iald cx hP (dMr (by decide)) rfl dX12_addScentAt_11 hF (fun v1 hF => ?_)
  refine r_iadd cx dX12_addScentAt_12 hF (fun v2 hF => ?_)
  refine r_iload_n cx dX12_addScentAt_13 (lv_at hl 1 rfl) ?_
  refine r_iast cx hP (dMr (by decide)) (fun _ => rfl) dX12_addScentAt_14 hF (fun s3 H locs hP hF => ?_)
  refine r_aload_n cx dX12_addScentAt_15 (lv_at hl 0 rfl) ?_
  refine gf12_9 cx hP dX12_addScentAt_16 ?_
  refine r_iconst cx 0 dX12_addScentAt_19 (by decide) ?_
  refine r_dup2 cx dX12_addScentAt_20 rfl rfl ?_
  refine r_iald cx hP (dMr (by decide)) rfl dX12_addScentAt_21 hF (fun v4 hF => ?_)
  refine r_iconst cx 1 dX12_addScentAt_22 (by decide) ?_
  refine r_iadd cx dX12_addScentAt_23 hF (fun v5 hF => ?_)
  refine r_iast cx hP (dMr (by decide)) (fun _ => rfl) dX12_addScentAt_24 hF (fun s6 H locs hP hF => ?_)
  exact r_vret cx hP hr hk dX12_addScentAt_25 hF
set_option maxHeartbeats 4000000 in
set_option maxRecDepth 100000 in
theorem w12_makeBed (l : Launch) (Γ : Wc) (ad : Nat → Nat → Nat) (A : Nat → Prop) (p1 : Int32) (p2 : Int32) (p3 : Int32) (p4 : Int32) (σ : Sig) (r : Int32) (σ1 : Sig) (hF : f12_makeBed p1 p2 p3 p4 σ = some (r, σ1)) : MI l SM Γ ad A yX12_makeBed cX12_makeBed 6 (some .int) 1 23 [.ref (ad 0 0), .int p1, .int p2, .int p3, .int p4] σ r σ1 := by
  refine MI.of (by decide) (Nat.le_of_ble_eq_true rfl) ?_
  intro p e s m args below meth c ls cx hr hk hP hl
  have hl : lv_has ls 6 [(0, .ref (ad 0 0)), (1, .int p1), (2, .int p2), (3, .int p3), (4, .int p4)] := hl
  rw [f12_makeBed] at hF
  refine r_aload_n cx dX12_makeBed_0 (lv_at hl 0 rfl) ?_
  refine gf12_9 cx hP dX12_makeBed_1 ?_
  refine r_iconst cx 1 dX12_makeBed_4 (by decide) ?_
  refine r_iald cx hP (dMr (by decide)) rfl dX12_makeBed_5 hF (fun v1 hF => ?_)
  refine r_istore cx [(5, .int v1), (0, .ref (ad 0 0)), (1, .int p1), (2, .int p2), (3, .int p3), (4, .int p4)] dX12_makeBed_6 hl (by decide) rfl (fun ls hl => ?_)
  refine r_aload_n cx dX12_makeBed_8 (lv_at hl 1 rfl) ?_
  refine gf12_9 cx hP dX12_makeBed_9 ?_
  refine r_iconst cx 1 dX12_makeBed_12 (by decide) ?_
  refine r_dup2 cx dX12_makeBed_13 rfl rfl ?_
  refine r_iald cx hP (dMr (by decide)) rfl dX12_makeBed_14 hF (fun v2 hF => ?_)
  refine r_iconst cx 1 dX12_makeBed_15 (by decide) ?_
  refine r_iadd cx dX12_makeBed_16 hF (fun v3 hF => ?_)
  refine r_iast cx hP (dMr (by decide)) (fun _ => rfl) dX12_makeBed_17 hF (fun s4 H locs hP hF => ?_)
  refine r_aload_n cx dX12_makeBed_18 (lv_at hl 1 rfl) ?_
  refine r_iload cx dX12_makeBed_19 (lv_at hl 0 rfl) ?_
  refine r_iconst cx 0 dX12_makeBed_21 (by decide) ?_
  refine r_iload_n cx dX12_makeBed_22 (lv_at hl 2 rfl) ?_
  obtain ⟨s5, hc, hF⟩ := bnd_some hF
  refine r_callVv cx hP (As := [.int v1, .int 0, .int p1]) (w12_putBed l Γ ad A v1 0 p1 s4 s5 hc) mw12_94 ⟨Nat.le_of_ble_eq_true rfl, Nat.le_of_ble_eq_true rfl⟩ (dMr (by decide)) rfl rfl rfl (Nat.le_of_ble_eq_true rfl) hl.1 ⟨Nat.zero_le _, Nat.zero_le _⟩ dX12_makeBed_23 (fun H locs hP => ?_)
  refine r_aload_n cx dX12_makeBed_26 (lv_at hl 1 rfl) ?_
  refine r_iload cx dX12_makeBed_27 (lv_at hl 0 rfl) ?_
  refine r_iconst cx 1 dX12_makeBed_29 (by decide) ?_
  refine r_iload_n cx dX12_makeBed_30 (lv_at hl 3 rfl) ?_
  obtain ⟨s6, hc, hF⟩ := bnd_some hF
  refine r_callVv cx hP (As := [.int v1, .int 1, .int p2]) (w12_putBed l Γ ad A v1 1 p2 s5 s6 hc) mw12_94 ⟨Nat.le_of_ble_eq_true rfl, Nat.le_of_ble_eq_true rfl⟩ (dMr (by decide)) rfl rfl rfl (Nat.le_of_ble_eq_true rfl) hl.1 ⟨Nat.zero_le _, Nat.zero_le _⟩ dX12_makeBed_31 (fun H locs hP => ?_)
  refine r_aload_n cx dX12_makeBed_34 (lv_at hl 1 rfl) ?_
  refine r_iload cx dX12_makeBed_35 (lv_at hl 0 rfl) ?_
  refine r_iconst cx 2 dX12_makeBed_37 (by decide) ?_
  refine r_iload_n cx dX12_makeBed_38 (lv_at hl 4 rfl) ?_
  obtain ⟨s7, hc, hF⟩ := bnd_some hF
  refine r_callVv cx hP (As := [.int v1, .int 2, .int p3]) (w12_putBed l Γ ad A v1 2 p3 s6 s7 hc) mw12_94 ⟨Nat.le_of_ble_eq_true rfl, Nat.le_of_ble_eq_true rfl⟩ (dMr (by decide)) rfl rfl rfl (Nat.le_of_ble_eq_true rfl) hl.1 ⟨Nat.zero_le _, Nat.zero_le _⟩ dX12_makeBed_39 (fun H locs hP => ?_)
  refine r_aload_n cx dX12_makeBed_42 (lv_at hl 1 rfl) ?_
  refine r_iload cx dX12_makeBed_43 (lv_at hl 0 rfl) ?_
  refine r_iconst cx 3 dX12_makeBed_45 (by decide) ?_
  refine r_iload cx dX12_makeBed_46 (lv_at hl 5 rfl) ?_
  obtain ⟨s8, hc, hF⟩ := bnd_some hF
  refine r_callVv cx hP (As := [.int v1, .int 3, .int p4]) (w12_putBed l Γ ad A v1 3 p4 s7 s8 hc) mw12_94 ⟨Nat.le_of_ble_eq_true rfl, Nat.le_of_ble_eq_true rfl⟩ (dMr (by decide)) rfl rfl rfl (Nat.le_of_ble_eq_true rfl) hl.1 ⟨Nat.zero_le _, Nat.zero_le _⟩ dX12_makeBed_48 (fun H locs hP => ?_)
  refine r_aload_n cx dX12_makeBed_51 (lv_at hl 1 rfl) ?_
  refine r_iload cx dX12_makeBed_52 (lv_at hl 0 rfl) ?_
  refine r_iconst cx 4 dX12_makeBed_54 (by decide) ?_
  refine r_bipush cx 20 dX12_makeBed_55 (by decide) ?_
  obtain ⟨s9, hc, hF⟩ := bnd_some hF
  refine r_callVv cx hP (As := [.int v1, .int 4, .int 20]) (w12_putBed l Γ ad A v1 4 20 s8 s9 hc) mw12_94 ⟨Nat.le_of_ble_eq_true rfl, Nat.le_of_ble_eq_true rfl⟩ (dMr (by decide)) rfl rfl rfl (Nat.le_of_ble_eq_true rfl) hl.1 ⟨Nat.zero_le _, Nat.zero_le _⟩ dX12_makeBed_57 (fun H locs hP => ?_)
  refine r_aload_n cx dX12_makeBed_60 (lv_at hl 1 rfl) ?_
  refine r_iload cx dX12_makeBed_61 (lv_at hl 0 rfl) ?_
  refine r_iconst cx 5 dX12_makeBed_63 (by decide) ?_
  refine r_iconst cx 0 dX12_makeBed_64 (by decide) ?_
  obtain ⟨s10, hc, hF⟩ := bnd_some hF
  refine r_callVv cx hP (As := [.int v1, .int 5, .int 0]) (w12_putBed l Γ ad A v1 5 0 s9 s10 hc) mw12_94 ⟨Nat.le_of_ble_eq_true rfl, Nat.le_of_ble_eq_true rfl⟩ (dMr (by decide)) rfl rfl rfl (Nat.le_of_ble_eq_true rfl) hl.1 ⟨Nat.zero_le _, Nat.zero_le _⟩ dX12_makeBed_65 (fun H locs hP => ?_)
  refine r_aload_n cx dX12_makeBed_68 (lv_at hl 1 rfl) ?_
  refine r_iload cx dX12_makeBed_69 (lv_at hl 0 rfl) ?_
  refine r_bipush cx 6 dX12_makeBed_71 (by decide) ?_
  refine r_iconst cx 0 dX12_makeBed_73 (by decide) ?_
  obtain ⟨s11, hc, hF⟩ := bnd_some hF
  refine r_callVv cx hP (As := [.int v1, .int 6, .int 0]) (w12_putBed l Γ ad A v1 6 0 s10 s11 hc) mw12_94 ⟨Nat.le_of_ble_eq_true rfl, Nat.le_of_ble_eq_true rfl⟩ (dMr (by decide)) rfl rfl rfl (Nat.le_of_ble_eq_true rfl) hl.1 ⟨Nat.zero_le _, Nat.zero_le _⟩ dX12_makeBed_74 (fun H locs hP => ?_)
  refine r_iload cx dX12_makeBed_77 (lv_at hl 0 rfl) ?_
  exact r_iret cx hP hr hk dX12_makeBed_79 hF
set_option maxHeartbeats 4000000 in
set_option maxRecDepth 100000 in
theorem w12_makeCard (l : Launch) (Γ : Wc) (ad : Nat → Nat → Nat) (A : Nat → Prop) (p1 : Int32) (σ : Sig) (r : Int32) (σ1 : Sig) (hF : f12_makeCard p1 σ = some (r, σ1)) : MI l SM Γ ad A yX12_makeCard cX12_makeCard 3 (some .int) 1 23 [.ref (ad 0 0), .int p1] σ r σ1 := by
  refine MI.of (by decide) (Nat.le_of_ble_eq_true rfl) ?_
  intro p e s m args below meth c ls cx hr hk hP hl
  have hl : lv_has ls 3 [(0, .ref (ad 0 0)), (1, .int p1)] := hl
  rw [f12_makeCard] at hF
  refine r_aload_n cx dX12_makeCard_0 (lv_at hl 0 rfl) ?_
  refine gf12_9 cx hP dX12_makeCard_1 ?_
  refine r_iconst cx 3 dX12_makeCard_4 (by decide) ?_
  refine r_iald cx hP (dMr (by decide)) rfl dX12_makeCard_5 hF (fun v1 hF => ?_)
  refine r_istore_n cx [(2, .int v1), (0, .ref (ad 0 0)), (1, .int p1)] dX12_makeCard_6 hl (by decide) rfl (fun ls hl => ?_)
  refine r_aload_n cx dX12_makeCard_7 (lv_at hl 1 rfl) ?_
  refine gf12_9 cx hP dX12_makeCard_8 ?_
  refine r_iconst cx 3 dX12_makeCard_11 (by decide) ?_
  refine r_dup2 cx dX12_makeCard_12 rfl rfl ?_
  refine r_iald cx hP (dMr (by decide)) rfl dX12_makeCard_13 hF (fun v2 hF => ?_)
  refine r_iconst cx 1 dX12_makeCard_14 (by decide) ?_
  refine r_iadd cx dX12_makeCard_15 hF (fun v3 hF => ?_)
  refine r_iast cx hP (dMr (by decide)) (fun _ => rfl) dX12_makeCard_16 hF (fun s4 H locs hP hF => ?_)
  refine r_aload_n cx dX12_makeCard_17 (lv_at hl 1 rfl) ?_
  refine gf12_9 cx hP dX12_makeCard_18 ?_
  refine r_sipush cx 436 dX12_makeCard_21 (by decide) ?_
  refine r_iconst cx 2 dX12_makeCard_24 (by decide) ?_
  refine r_iload_n cx dX12_makeCard_25 (lv_at hl 0 rfl) ?_
  refine r_imul cx dX12_makeCard_26 hF (fun v5 hF => ?_)
  refine r_iadd cx dX12_makeCard_27 hF (fun v6 hF => ?_)
  refine r_iload_n cx dX12_makeCard_28 (lv_at hl 2 rfl) ?_
  refine r_iast cx hP (dMr (by decide)) (fun _ => rfl) dX12_makeCard_29 hF (fun s7 H locs hP hF => ?_)
  refine r_aload_n cx dX12_makeCard_30 (lv_at hl 1 rfl) ?_
  refine gf12_9 cx hP dX12_makeCard_31 ?_
  refine r_sipush cx 436 dX12_makeCard_34 (by decide) ?_
  refine r_iconst cx 2 dX12_makeCard_37 (by decide) ?_
  refine r_iload_n cx dX12_makeCard_38 (lv_at hl 0 rfl) ?_
  refine r_imul cx dX12_makeCard_39 hF (fun v8 hF => ?_)
  refine r_iadd cx dX12_makeCard_40 hF (fun v9 hF => ?_)
  refine r_iconst cx 1 dX12_makeCard_41 (by decide) ?_
  refine r_iadd cx dX12_makeCard_42 hF (fun v10 hF => ?_)
  refine r_iconst cx 0 dX12_makeCard_43 (by decide) ?_
  refine r_iast cx hP (dMr (by decide)) (fun _ => rfl) dX12_makeCard_44 hF (fun s11 H locs hP hF => ?_)
  refine r_aload_n cx dX12_makeCard_45 (lv_at hl 1 rfl) ?_
  refine r_iload_n cx dX12_makeCard_46 (lv_at hl 2 rfl) ?_
  refine r_iconst cx 5 dX12_makeCard_47 (by decide) ?_
  refine r_iload_n cx dX12_makeCard_48 (lv_at hl 0 rfl) ?_
  obtain ⟨s12, hc, hF⟩ := bnd_some hF
  refine r_callVv cx hP (As := [.int p1, .int 5, .int v1]) (w12_put l Γ ad A p1 5 v1 s11 s12 hc) mw12_98 ⟨Nat.le_of_ble_eq_true rfl, Nat.le_of_ble_eq_true rfl⟩ (dMr (by decide)) rfl rfl rfl (Nat.le_of_ble_eq_true rfl) hl.1 ⟨Nat.zero_le _, Nat.zero_le _⟩ dX12_makeCard_49 (fun H locs hP => ?_)
  refine r_iload_n cx dX12_makeCard_52 (lv_at hl 0 rfl) ?_
  exact r_iret cx hP hr hk dX12_makeCard_53 hF
set_option maxHeartbeats 4000000 in
set_option maxRecDepth 100000 in
theorem w12_makePass (l : Launch) (Γ : Wc) (ad : Nat → Nat → Nat) (A : Nat → Prop) (p1 : Int32) (p2 : Int32) (p3 : Int32) (p4 : Int32) (σ : Sig) (r : Int32) (σ1 : Sig) (hF : f12_makePass p1 p2 p3 p4 σ = some (r, σ1)) : MI l SM Γ ad A yX12_makePass cX12_makePass 8 (some .int) 2 45 [.ref (ad 0 0), .int p1, .int p2, .int p3, .int p4] σ r σ1 := by
  refine MI.of (by decide) (Nat.le_of_ble_eq_true rfl) ?_
  intro p e s m args below meth c ls cx hr hk hP hl
  have hl : lv_has ls 8 [(0, .ref (ad 0 0)), (1, .int p1), (2, .int p2), (3, .int p3), (4, .int p4)] := hl
  rw [f12_makePass] at hF
  refine r_aload_n cx dX12_makePass_0 (lv_at hl 0 rfl) ?_
  refine gf12_9 cx hP dX12_makePass_1 ?_
  refine r_iconst cx 2 dX12_makePass_4 (by decide) ?_
  refine r_iald cx hP (dMr (by decide)) rfl dX12_makePass_5 hF (fun v1 hF => ?_)
  refine r_istore cx [(5, .int v1), (0, .ref (ad 0 0)), (1, .int p1), (2, .int p2), (3, .int p3), (4, .int p4)] dX12_makePass_6 hl (by decide) rfl (fun ls hl => ?_)
  refine r_aload_n cx dX12_makePass_8 (lv_at hl 1 rfl) ?_
  refine gf12_9 cx hP dX12_makePass_9 ?_
  refine r_iconst cx 2 dX12_makePass_12 (by decide) ?_
  refine r_dup2 cx dX12_makePass_13 rfl rfl ?_
  refine r_iald cx hP (dMr (by decide)) rfl dX12_makePass_14 hF (fun v2 hF => ?_)
  refine r_iconst cx 1 dX12_makePass_15 (by decide) ?_
  refine r_iadd cx dX12_makePass_16 hF (fun v3 hF => ?_)
  refine r_iast cx hP (dMr (by decide)) (fun _ => rfl) dX12_makePass_17 hF (fun s4 H locs hP hF => ?_)
  refine r_aload_n cx dX12_makePass_18 (lv_at hl 1 rfl) ?_
  refine r_iload_n cx dX12_makePass_19 (lv_at hl 2 rfl) ?_
  refine r_iload_n cx dX12_makePass_20 (lv_at hl 4 rfl) ?_
  refine r_iload cx dX12_makePass_21 (lv_at hl 5 rfl) ?_
  obtain ⟨v5, hc, hF⟩ := bnd_some hF
  refine r_callVi cx hP (As := [.int p1, .int p3, .int p4]) (w12_priceFor l Γ ad A p1 p3 p4 s4 v5 hc) mw12_101 ⟨Nat.le_of_ble_eq_true rfl, Nat.le_of_ble_eq_true rfl⟩ (dMr (by decide)) rfl rfl rfl (Nat.le_of_ble_eq_true rfl) hl.1 ⟨Nat.zero_le _, Nat.zero_le _⟩ dX12_makePass_23 (fun H locs hP => ?_)
  refine r_istore cx [(6, .int v5), (5, .int v1), (0, .ref (ad 0 0)), (1, .int p1), (2, .int p2), (3, .int p3), (4, .int p4)] dX12_makePass_26 hl (by decide) rfl (fun ls hl => ?_)
  refine r_aload_n cx dX12_makePass_28 (lv_at hl 2 rfl) ?_
  refine r_iload cx dX12_makePass_29 (lv_at hl 1 rfl) ?_
  refine r_iconst cx 0 dX12_makePass_31 (by decide) ?_
  refine r_iload_n cx dX12_makePass_32 (lv_at hl 3 rfl) ?_
  obtain ⟨s6, hc, hF⟩ := bnd_some hF
  refine r_callVv cx hP (As := [.int v1, .int 0, .int p1]) (w12_put l Γ ad A v1 0 p1 s4 s6 hc) mw12_98 ⟨Nat.le_of_ble_eq_true rfl, Nat.le_of_ble_eq_true rfl⟩ (dMr (by decide)) rfl rfl rfl (Nat.le_of_ble_eq_true rfl) hl.1 ⟨Nat.zero_le _, Nat.zero_le _⟩ dX12_makePass_33 (fun H locs hP => ?_)
  refine r_aload_n cx dX12_makePass_36 (lv_at hl 2 rfl) ?_
  refine r_iload cx dX12_makePass_37 (lv_at hl 1 rfl) ?_
  refine r_iconst cx 1 dX12_makePass_39 (by decide) ?_
  refine r_iload_n cx dX12_makePass_40 (lv_at hl 4 rfl) ?_
  obtain ⟨s7, hc, hF⟩ := bnd_some hF
  refine r_callVv cx hP (As := [.int v1, .int 1, .int p2]) (w12_put l Γ ad A v1 1 p2 s6 s7 hc) mw12_98 ⟨Nat.le_of_ble_eq_true rfl, Nat.le_of_ble_eq_true rfl⟩ (dMr (by decide)) rfl rfl rfl (Nat.le_of_ble_eq_true rfl) hl.1 ⟨Nat.zero_le _, Nat.zero_le _⟩ dX12_makePass_41 (fun H locs hP => ?_)
  refine r_aload_n cx dX12_makePass_44 (lv_at hl 2 rfl) ?_
  refine r_iload cx dX12_makePass_45 (lv_at hl 1 rfl) ?_
  refine r_iconst cx 2 dX12_makePass_47 (by decide) ?_
  refine r_iload_n cx dX12_makePass_48 (lv_at hl 5 rfl) ?_
  obtain ⟨s8, hc, hF⟩ := bnd_some hF
  refine r_callVv cx hP (As := [.int v1, .int 2, .int p3]) (w12_put l Γ ad A v1 2 p3 s7 s8 hc) mw12_98 ⟨Nat.le_of_ble_eq_true rfl, Nat.le_of_ble_eq_true rfl⟩ (dMr (by decide)) rfl rfl rfl (Nat.le_of_ble_eq_true rfl) hl.1 ⟨Nat.zero_le _, Nat.zero_le _⟩ dX12_makePass_49 (fun H locs hP => ?_)
  refine r_aload_n cx dX12_makePass_52 (lv_at hl 2 rfl) ?_
  refine r_iload cx dX12_makePass_53 (lv_at hl 1 rfl) ?_
  refine r_iconst cx 3 dX12_makePass_55 (by decide) ?_
  refine r_iload cx dX12_makePass_56 (lv_at hl 6 rfl) ?_
  obtain ⟨s9, hc, hF⟩ := bnd_some hF
  refine r_callVv cx hP (As := [.int v1, .int 3, .int p4]) (w12_put l Γ ad A v1 3 p4 s8 s9 hc) mw12_98 ⟨Nat.le_of_ble_eq_true rfl, Nat.le_of_ble_eq_true rfl⟩ (dMr (by decide)) rfl rfl rfl (Nat.le_of_ble_eq_true rfl) hl.1 ⟨Nat.zero_le _, Nat.zero_le _⟩ dX12_makePass_58 (fun H locs hP => ?_)
  refine r_aload_n cx dX12_makePass_61 (lv_at hl 2 rfl) ?_
  refine r_iload cx dX12_makePass_62 (lv_at hl 1 rfl) ?_
  refine r_iconst cx 4 dX12_makePass_64 (by decide) ?_
  refine r_iload cx dX12_makePass_65 (lv_at hl 0 rfl) ?_
  obtain ⟨s10, hc, hF⟩ := bnd_some hF
  refine r_callVv cx hP (As := [.int v1, .int 4, .int v5]) (w12_put l Γ ad A v1 4 v5 s9 s10 hc) mw12_98 ⟨Nat.le_of_ble_eq_true rfl, Nat.le_of_ble_eq_true rfl⟩ (dMr (by decide)) rfl rfl rfl (Nat.le_of_ble_eq_true rfl) hl.1 ⟨Nat.zero_le _, Nat.zero_le _⟩ dX12_makePass_67 (fun H locs hP => ?_)
  refine r_aload_n cx dX12_makePass_70 (lv_at hl 2 rfl) ?_
  refine r_iload cx dX12_makePass_71 (lv_at hl 1 rfl) ?_
  refine r_bipush cx 6 dX12_makePass_73 (by decide) ?_
  refine r_iconst cx 0 dX12_makePass_75 (by decide) ?_
  obtain ⟨s11, hc, hF⟩ := bnd_some hF
  refine r_callVv cx hP (As := [.int v1, .int 6, .int 0]) (w12_put l Γ ad A v1 6 0 s10 s11 hc) mw12_98 ⟨Nat.le_of_ble_eq_true rfl, Nat.le_of_ble_eq_true rfl⟩ (dMr (by decide)) rfl rfl rfl (Nat.le_of_ble_eq_true rfl) hl.1 ⟨Nat.zero_le _, Nat.zero_le _⟩ dX12_makePass_76 (fun H locs hP => ?_)
  refine r_aload_n cx dX12_makePass_79 (lv_at hl 2 rfl) ?_
  refine r_iload cx dX12_makePass_80 (lv_at hl 1 rfl) ?_
  refine r_bipush cx 7 dX12_makePass_82 (by decide) ?_
  refine r_iconst cx 0 dX12_makePass_84 (by decide) ?_
  obtain ⟨s12, hc, hF⟩ := bnd_some hF
  refine r_callVv cx hP (As := [.int v1, .int 7, .int 0]) (w12_put l Γ ad A v1 7 0 s11 s12 hc) mw12_98 ⟨Nat.le_of_ble_eq_true rfl, Nat.le_of_ble_eq_true rfl⟩ (dMr (by decide)) rfl rfl rfl (Nat.le_of_ble_eq_true rfl) hl.1 ⟨Nat.zero_le _, Nat.zero_le _⟩ dX12_makePass_85 (fun H locs hP => ?_)
  refine r_aload_n cx dX12_makePass_88 (lv_at hl 2 rfl) ?_
  refine r_iload cx dX12_makePass_89 (lv_at hl 1 rfl) ?_
  refine r_bipush cx 8 dX12_makePass_91 (by decide) ?_
  refine r_iconst cx 0 dX12_makePass_93 (by decide) ?_
  obtain ⟨s13, hc, hF⟩ := bnd_some hF
  refine r_callVv cx hP (As := [.int v1, .int 8, .int 0]) (w12_put l Γ ad A v1 8 0 s12 s13 hc) mw12_98 ⟨Nat.le_of_ble_eq_true rfl, Nat.le_of_ble_eq_true rfl⟩ (dMr (by decide)) rfl rfl rfl (Nat.le_of_ble_eq_true rfl) hl.1 ⟨Nat.zero_le _, Nat.zero_le _⟩ dX12_makePass_94 (fun H locs hP => ?_)
  refine r_aload_n cx dX12_makePass_97 (lv_at hl 2 rfl) ?_
  refine r_iload cx dX12_makePass_98 (lv_at hl 1 rfl) ?_
  refine r_bipush cx 9 dX12_makePass_100 (by decide) ?_
  refine r_iconst cx (-1) dX12_makePass_102 (by decide) ?_
  obtain ⟨s14, hc, hF⟩ := bnd_some hF
  refine r_callVv cx hP (As := [.int v1, .int 9, .int (-1)]) (w12_put l Γ ad A v1 9 (-1) s13 s14 hc) mw12_98 ⟨Nat.le_of_ble_eq_true rfl, Nat.le_of_ble_eq_true rfl⟩ (dMr (by decide)) rfl rfl rfl (Nat.le_of_ble_eq_true rfl) hl.1 ⟨Nat.zero_le _, Nat.zero_le _⟩ dX12_makePass_103 (fun H locs hP => ?_)
  refine r_aload_n cx dX12_makePass_106 (lv_at hl 2 rfl) ?_
  refine r_iload cx dX12_makePass_107 (lv_at hl 1 rfl) ?_
  refine r_bipush cx 10 dX12_makePass_109 (by decide) ?_
  refine r_iconst cx (-1) dX12_makePass_111 (by decide) ?_
  obtain ⟨s15, hc, hF⟩ := bnd_some hF
  refine r_callVv cx hP (As := [.int v1, .int 10, .int (-1)]) (w12_put l Γ ad A v1 10 (-1) s14 s15 hc) mw12_98 ⟨Nat.le_of_ble_eq_true rfl, Nat.le_of_ble_eq_true rfl⟩ (dMr (by decide)) rfl rfl rfl (Nat.le_of_ble_eq_true rfl) hl.1 ⟨Nat.zero_le _, Nat.zero_le _⟩ dX12_makePass_112 (fun H locs hP => ?_)
  refine r_aload_n cx dX12_makePass_115 (lv_at hl 2 rfl) ?_
  refine r_iload cx dX12_makePass_116 (lv_at hl 1 rfl) ?_
  refine r_bipush cx 11 dX12_makePass_118 (by decide) ?_
  refine r_iconst cx 0 dX12_makePass_120 (by decide) ?_
  obtain ⟨s16, hc, hF⟩ := bnd_some hF
  refine r_callVv cx hP (As := [.int v1, .int 11, .int 0]) (w12_put l Γ ad A v1 11 0 s15 s16 hc) mw12_98 ⟨Nat.le_of_ble_eq_true rfl, Nat.le_of_ble_eq_true rfl⟩ (dMr (by decide)) rfl rfl rfl (Nat.le_of_ble_eq_true rfl) hl.1 ⟨Nat.zero_le _, Nat.zero_le _⟩ dX12_makePass_121 (fun H locs hP => ?_)
  refine r_aload_n cx dX12_makePass_124 (lv_at hl 2 rfl) ?_
  refine r_iload cx dX12_makePass_125 (lv_at hl 1 rfl) ?_
  obtain ⟨v17, s18, hc, hF⟩ := bns_some hF
  refine r_callVi cx hP (As := [.int v1]) (w12_makeCard l Γ ad A v1 s16 v17 s18 hc) mw12_105 ⟨Nat.le_of_ble_eq_true rfl, Nat.le_of_ble_eq_true rfl⟩ (dMr (by decide)) rfl rfl rfl (Nat.le_of_ble_eq_true rfl) hl.1 ⟨Nat.zero_le _, Nat.zero_le _⟩ dX12_makePass_127 (fun H locs hP => ?_)
  refine r_istore cx [(7, .int v17), (6, .int v5), (5, .int v1), (0, .ref (ad 0 0)), (1, .int p1), (2, .int p2), (3, .int p3), (4, .int p4)] dX12_makePass_130 hl (by decide) rfl (fun ls hl => ?_)
  refine r_aload_n cx dX12_makePass_132 (lv_at hl 3 rfl) ?_
  refine gf12_9 cx hP dX12_makePass_133 ?_
  refine r_bipush cx 9 dX12_makePass_136 (by decide) ?_
  refine r_dup2 cx dX12_makePass_138 rfl rfl ?_
  refine r_iald cx hP (dMr (by decide)) rfl dX12_makePass_139 hF (fun v19 hF => ?_)
  refine r_iload cx dX12_makePass_140 (lv_at hl 1 rfl) ?_
  refine r_iadd cx dX12_makePass_142 hF (fun v20 hF => ?_)
  refine r_iast cx hP (dMr (by decide)) (fun _ => rfl) dX12_makePass_143 hF (fun s21 H locs hP hF => ?_)
  refine r_iload cx dX12_makePass_144 (lv_at hl 0 rfl) ?_
  refine r_if_ge cx 153 dX12_makePass_146 (by decide) hF (fun hF => ?_) (fun hF => ?_)
  · refine r_iload cx dX12_makePass_153 (lv_at hl 2 rfl) ?_
    exact r_iret cx hP hr hk dX12_makePass_155 hF
  · refine r_iconst cx (-1) dX12_makePass_149 (by decide) ?_
    refine r_goto cx 155 dX12_makePass_150 (by decide) ?_
    exact r_iret cx hP hr hk dX12_makePass_155 hF
set_option maxHeartbeats 4000000 in
set_option maxRecDepth 100000 in
theorem w12_soldOut (l : Launch) (Γ : Wc) (ad : Nat → Nat → Nat) (A : Nat → Prop)  (σ : Sig) (r : Int32) (hF : f12_soldOut  σ = some r) : MI l SM Γ ad A yX12_soldOut cX12_soldOut 1 (some .boolean) 0 0 [.ref (ad 0 0)] σ r σ := by
  refine MI.of (by decide) (Nat.le_of_ble_eq_true rfl) ?_
  intro p e s m args below meth c ls cx hr hk hP hl
  have hl : lv_has ls 1 [(0, .ref (ad 0 0))] := hl
  rw [f12_soldOut] at hF
  generalize hH0 : s.heap = H0 at hP ⊢
  generalize ([] : List Loc) = locs0 at hP ⊢
  clear hH0
  have b22 : ∀ (H : Heap) (locs : List Loc) (ls : Array Slot), PS SM Γ ad A s σ H locs → lv_has ls 1 [] → f12_soldOut_b22 σ = some r → W p l e (rmz 0 0) s m args below meth c H locs 0 0 (QI SM Γ ad A below args s r σ) (F0 m 22 ls []) := by
    intro H locs ls hP hl hF
    rw [f12_soldOut_b22] at hF
    refine r_iconst cx 1 dX12_soldOut_22 (by decide) ?_
    refine r_goto cx 27 dX12_soldOut_23 (by decide) ?_
    exact r_zret cx hP hr hk (by decide) dX12_soldOut_27 (prF hF)
  refine r_aload_n cx dX12_soldOut_0 (lv_at hl 0 rfl) ?_
  refine gf12_9 cx hP dX12_soldOut_1 ?_
  refine r_iconst cx 2 dX12_soldOut_4 (by decide) ?_
  refine r_iald cx hP (dMr (by decide)) rfl dX12_soldOut_5 hF (fun v1 hF => ?_)
  refine r_bipush cx 30 dX12_soldOut_6 (by decide) ?_
  refine r_icmp_eq cx 22 dX12_soldOut_8 (by decide) hF (fun hF => ?_) (fun hF => ?_)
  · exact b22 _ _ _ hP (lv_sub hl [] rfl) hF
  · refine r_aload_n cx dX12_soldOut_11 (lv_at hl 0 rfl) ?_
    refine gf12_9 cx hP dX12_soldOut_12 ?_
    refine r_iconst cx 3 dX12_soldOut_15 (by decide) ?_
    refine r_iald cx hP (dMr (by decide)) rfl dX12_soldOut_16 hF (fun v2 hF => ?_)
    refine r_bipush cx 50 dX12_soldOut_17 (by decide) ?_
    refine r_icmp_ne cx 26 dX12_soldOut_19 (by decide) hF (fun hF => ?_) (fun hF => ?_)
    · refine r_iconst cx 0 dX12_soldOut_26 (by decide) ?_
      exact r_zret cx hP hr hk (by decide) dX12_soldOut_27 (prF hF)
    · exact b22 _ _ _ hP (lv_sub hl [] rfl) hF
set_option maxHeartbeats 4000000 in
set_option maxRecDepth 100000 in
theorem w12_refusal (l : Launch) (Γ : Wc) (ad : Nat → Nat → Nat) (A : Nat → Prop) (p1 : Int32) (p2 : Int32) (σ : Sig) (r : Int32) (hF : f12_refusal p1 p2 σ = some r) : MI l SM Γ ad A yX12_refusal cX12_refusal 4 (some .int) 2 43 [.ref (ad 0 0), .int p1, .int p2] σ r σ := by
  refine MI.of (by decide) (Nat.le_of_ble_eq_true rfl) ?_
  intro p e s m args below meth c ls cx hr hk hP hl
  have hl : lv_has ls 4 [(0, .ref (ad 0 0)), (1, .int p1), (2, .int p2)] := hl
  rw [f12_refusal] at hF
  generalize hH0 : s.heap = H0 at hP ⊢
  generalize ([] : List Loc) = locs0 at hP ⊢
  clear hH0
  have b133 : ∀ (x2 : Int32) (H : Heap) (locs : List Loc) (ls : Array Slot), PS SM Γ ad A s σ H locs → lv_has ls 4 [(0, .ref (ad 0 0)), (2, .int x2)] → f12_refusal_b133 x2 σ = some r → W p l e (rmz 2 43) s m args below meth c H locs 0 0 (QI SM Γ ad A below args s r σ) (F0 m 133 ls []) := by
    intro x2 H locs ls hP hl hF
    rw [f12_refusal_b133] at hF
    refine r_aload_n cx dX12_refusal_133 (lv_at hl 0 rfl) ?_
    refine r_iload_n cx dX12_refusal_134 (lv_at hl 1 rfl) ?_
    refine r_iconst cx 5 dX12_refusal_135 (by decide) ?_
    obtain ⟨v1, hc, hF⟩ := bnd_some hF
    refine r_callVi cx hP (As := [.int x2, .int 5]) (w12_bed l Γ ad A x2 5 σ v1 hc) mw12_85 ⟨Nat.le_of_ble_eq_true rfl, Nat.le_of_ble_eq_true rfl⟩ (dMr (by decide)) rfl rfl rfl (Nat.le_of_ble_eq_true rfl) hl.1 ⟨Nat.zero_le _, Nat.zero_le _⟩ dX12_refusal_136 (fun H locs hP => ?_)
    refine r_aload_n cx dX12_refusal_139 (lv_at hl 0 rfl) ?_
    refine r_iload_n cx dX12_refusal_140 (lv_at hl 1 rfl) ?_
    refine r_iconst cx 1 dX12_refusal_141 (by decide) ?_
    obtain ⟨v2, hc, hF⟩ := bnd_some hF
    refine r_callVi cx hP (As := [.int x2, .int 1]) (w12_bed l Γ ad A x2 1 σ v2 hc) mw12_85 ⟨Nat.le_of_ble_eq_true rfl, Nat.le_of_ble_eq_true rfl⟩ (dMr (by decide)) rfl rfl rfl (Nat.le_of_ble_eq_true rfl) hl.1 ⟨Nat.zero_le _, Nat.zero_le _⟩ dX12_refusal_142 (fun H locs hP => ?_)
    refine r_icmp_lt cx 153 dX12_refusal_145 (by decide) hF (fun hF => ?_) (fun hF => ?_)
    · refine r_iconst cx 0 dX12_refusal_153 (by decide) ?_
      exact r_iret cx hP hr hk dX12_refusal_154 (prF hF)
    · refine r_bipush cx 7 dX12_refusal_148 (by decide) ?_
      refine r_goto cx 154 dX12_refusal_150 (by decide) ?_
      exact r_iret cx hP hr hk dX12_refusal_154 (prF hF)
  refine r_aload_n cx dX12_refusal_0 (lv_at hl 0 rfl) ?_
  refine r_iload_n cx dX12_refusal_1 (lv_at hl 1 rfl) ?_
  obtain ⟨v3, hc, hF⟩ := bnd_some hF
  refine r_callVi cx hP (As := [.int p1]) (w12_passOfCard l Γ ad A p1 σ v3 hc) mw12_108 ⟨Nat.le_of_ble_eq_true rfl, Nat.le_of_ble_eq_true rfl⟩ (dMr (by decide)) rfl rfl rfl (Nat.le_of_ble_eq_true rfl) hl.1 ⟨Nat.zero_le _, Nat.zero_le _⟩ dX12_refusal_2 (fun H locs hP => ?_)
  refine r_istore_n cx [(3, .int v3), (0, .ref (ad 0 0)), (1, .int p1), (2, .int p2)] dX12_refusal_5 hl (by decide) rfl (fun ls hl => ?_)
  refine r_aload_n cx dX12_refusal_6 (lv_at hl 1 rfl) ?_
  refine r_aload_n cx dX12_refusal_7 (lv_at hl 1 rfl) ?_
  refine gf12_9 cx hP dX12_refusal_8 ?_
  refine r_iconst cx 4 dX12_refusal_11 (by decide) ?_
  refine r_iald cx hP (dMr (by decide)) rfl dX12_refusal_12 hF (fun v4 hF => ?_)
  refine r_bipush cx 96 dX12_refusal_13 (by decide) ?_
  refine r_irem cx dX12_refusal_15 hF (fun v5 hF => ?_)
  obtain ⟨v6, hc, hF⟩ := bnd_some hF
  refine r_callVi cx hP (As := [.int v5]) (w12_openAt l Γ ad A v5 σ v6 hc) mw12_77 ⟨Nat.le_of_ble_eq_true rfl, Nat.le_of_ble_eq_true rfl⟩ (dMr (by decide)) rfl rfl rfl (Nat.le_of_ble_eq_true rfl) hl.1 ⟨Nat.zero_le _, Nat.zero_le _⟩ dX12_refusal_16 (fun H locs hP => ?_)
  refine r_if_ne cx 24 dX12_refusal_19 (by decide) hF (fun hF => ?_) (fun hF => ?_)
  · refine r_aload_n cx dX12_refusal_24 (lv_at hl 1 rfl) ?_
    refine r_iload_n cx dX12_refusal_25 (lv_at hl 2 rfl) ?_
    obtain ⟨v7, hc, hF⟩ := bnd_some hF
    refine r_callVi cx hP (As := [.int p1]) (w12_blocked l Γ ad A p1 σ v7 hc) mw12_111 ⟨Nat.le_of_ble_eq_true rfl, Nat.le_of_ble_eq_true rfl⟩ (dMr (by decide)) rfl rfl rfl (Nat.le_of_ble_eq_true rfl) hl.1 ⟨Nat.zero_le _, Nat.zero_le _⟩ dX12_refusal_26 (fun H locs hP => ?_)
    refine r_if_eq cx 34 dX12_refusal_29 (by decide) hF (fun hF => ?_) (fun hF => ?_)
    · refine r_aload_n cx dX12_refusal_34 (lv_at hl 1 rfl) ?_
      obtain ⟨v8, hc, hF⟩ := bnd_some hF
      refine r_callVi cx hP (As := []) (w12_today l Γ ad A σ v8 hc) mw12_81 ⟨Nat.le_of_ble_eq_true rfl, Nat.le_of_ble_eq_true rfl⟩ (dMr (by decide)) rfl rfl rfl (Nat.le_of_ble_eq_true rfl) hl.1 ⟨Nat.zero_le _, Nat.zero_le _⟩ dX12_refusal_35 (fun H locs hP => ?_)
      refine r_aload_n cx dX12_refusal_38 (lv_at hl 1 rfl) ?_
      refine r_iload_n cx dX12_refusal_39 (lv_at hl 0 rfl) ?_
      refine r_iconst cx 1 dX12_refusal_40 (by decide) ?_
      obtain ⟨v9, hc, hF⟩ := bnd_some hF
      refine r_callVi cx hP (As := [.int v3, .int 1]) (w12_of l Γ ad A v3 1 σ v9 hc) mw12_88 ⟨Nat.le_of_ble_eq_true rfl, Nat.le_of_ble_eq_true rfl⟩ (dMr (by decide)) rfl rfl rfl (Nat.le_of_ble_eq_true rfl) hl.1 ⟨Nat.zero_le _, Nat.zero_le _⟩ dX12_refusal_41 (fun H locs hP => ?_)
      refine r_icmp_lt cx 59 dX12_refusal_44 (by decide) hF (fun hF => ?_) (fun hF => ?_)
      · refine r_iconst cx 3 dX12_refusal_59 (by decide) ?_
        exact r_iret cx hP hr hk dX12_refusal_60 (prF hF)
      · refine r_aload_n cx dX12_refusal_47 (lv_at hl 1 rfl) ?_
        obtain ⟨v10, hc, hF⟩ := bnd_some hF
        refine r_callVi cx hP (As := []) (w12_today l Γ ad A σ v10 hc) mw12_81 ⟨Nat.le_of_ble_eq_true rfl, Nat.le_of_ble_eq_true rfl⟩ (dMr (by decide)) rfl rfl rfl (Nat.le_of_ble_eq_true rfl) hl.1 ⟨Nat.zero_le _, Nat.zero_le _⟩ dX12_refusal_48 (fun H locs hP => ?_)
        refine r_aload_n cx dX12_refusal_51 (lv_at hl 1 rfl) ?_
        refine r_iload_n cx dX12_refusal_52 (lv_at hl 0 rfl) ?_
        obtain ⟨v11, hc, hF⟩ := bnd_some hF
        refine r_callVi cx hP (As := [.int v3]) (w12_lastOf l Γ ad A v3 σ v11 hc) mw12_114 ⟨Nat.le_of_ble_eq_true rfl, Nat.le_of_ble_eq_true rfl⟩ (dMr (by decide)) rfl rfl rfl (Nat.le_of_ble_eq_true rfl) hl.1 ⟨Nat.zero_le _, Nat.zero_le _⟩ dX12_refusal_53 (fun H locs hP => ?_)
        refine r_icmp_le cx 61 dX12_refusal_56 (by decide) hF (fun hF => ?_) (fun hF => ?_)
        · refine r_aload_n cx dX12_refusal_61 (lv_at hl 1 rfl) ?_
          refine r_iload_n cx dX12_refusal_62 (lv_at hl 0 rfl) ?_
          refine r_iconst cx 0 dX12_refusal_63 (by decide) ?_
          obtain ⟨v12, hc, hF⟩ := bnd_some hF
          refine r_callVi cx hP (As := [.int v3, .int 0]) (w12_of l Γ ad A v3 0 σ v12 hc) mw12_88 ⟨Nat.le_of_ble_eq_true rfl, Nat.le_of_ble_eq_true rfl⟩ (dMr (by decide)) rfl rfl rfl (Nat.le_of_ble_eq_true rfl) hl.1 ⟨Nat.zero_le _, Nat.zero_le _⟩ dX12_refusal_64 (fun H locs hP => ?_)
          refine r_aload_n cx dX12_refusal_67 (lv_at hl 1 rfl) ?_
          refine r_iload_n cx dX12_refusal_68 (lv_at hl 3 rfl) ?_
          refine r_iconst cx 0 dX12_refusal_69 (by decide) ?_
          obtain ⟨v13, hc, hF⟩ := bnd_some hF
          refine r_callVi cx hP (As := [.int p2, .int 0]) (w12_bed l Γ ad A p2 0 σ v13 hc) mw12_85 ⟨Nat.le_of_ble_eq_true rfl, Nat.le_of_ble_eq_true rfl⟩ (dMr (by decide)) rfl rfl rfl (Nat.le_of_ble_eq_true rfl) hl.1 ⟨Nat.zero_le _, Nat.zero_le _⟩ dX12_refusal_70 (fun H locs hP => ?_)
          refine r_ishr cx dX12_refusal_73 hF (fun v14 hF => ?_)
          refine r_iconst cx 1 dX12_refusal_74 (by decide) ?_
          refine r_iand cx dX12_refusal_75 hF (fun v15 hF => ?_)
          refine r_if_ne cx 81 dX12_refusal_76 (by decide) hF (fun hF => ?_) (fun hF => ?_)
          · refine r_aload_n cx dX12_refusal_81 (lv_at hl 1 rfl) ?_
            refine r_iload_n cx dX12_refusal_82 (lv_at hl 0 rfl) ?_
            refine r_bipush cx 11 dX12_refusal_83 (by decide) ?_
            obtain ⟨v16, hc, hF⟩ := bnd_some hF
            refine r_callVi cx hP (As := [.int v3, .int 11]) (w12_of l Γ ad A v3 11 σ v16 hc) mw12_88 ⟨Nat.le_of_ble_eq_true rfl, Nat.le_of_ble_eq_true rfl⟩ (dMr (by decide)) rfl rfl rfl (Nat.le_of_ble_eq_true rfl) hl.1 ⟨Nat.zero_le _, Nat.zero_le _⟩ dX12_refusal_85 (fun H locs hP => ?_)
            refine r_bipush cx 30 dX12_refusal_88 (by decide) ?_
            refine r_icmp_le cx 95 dX12_refusal_90 (by decide) hF (fun hF => ?_) (fun hF => ?_)
            · refine r_aload_n cx dX12_refusal_95 (lv_at hl 1 rfl) ?_
              refine r_iload_n cx dX12_refusal_96 (lv_at hl 0 rfl) ?_
              refine r_bipush cx 9 dX12_refusal_97 (by decide) ?_
              obtain ⟨v17, hc, hF⟩ := bnd_some hF
              refine r_callVi cx hP (As := [.int v3, .int 9]) (w12_of l Γ ad A v3 9 σ v17 hc) mw12_88 ⟨Nat.le_of_ble_eq_true rfl, Nat.le_of_ble_eq_true rfl⟩ (dMr (by decide)) rfl rfl rfl (Nat.le_of_ble_eq_true rfl) hl.1 ⟨Nat.zero_le _, Nat.zero_le _⟩ dX12_refusal_99 (fun H locs hP => ?_)
              refine r_iconst cx (-1) dX12_refusal_102 (by decide) ?_
              refine r_icmp_eq cx 133 dX12_refusal_103 (by decide) hF (fun hF => ?_) (fun hF => ?_)
              · exact b133 p2 _ _ _ hP (lv_sub hl [1, 3] rfl) hF
              · refine r_aload_n cx dX12_refusal_106 (lv_at hl 1 rfl) ?_
                refine gf12_9 cx hP dX12_refusal_107 ?_
                refine r_iconst cx 4 dX12_refusal_110 (by decide) ?_
                refine r_iald cx hP (dMr (by decide)) rfl dX12_refusal_111 hF (fun v18 hF => ?_)
                refine r_aload_n cx dX12_refusal_112 (lv_at hl 1 rfl) ?_
                refine r_iload_n cx dX12_refusal_113 (lv_at hl 0 rfl) ?_
                refine r_bipush cx 9 dX12_refusal_114 (by decide) ?_
                obtain ⟨v19, hc, hF⟩ := bnd_some hF
                refine r_callVi cx hP (As := [.int v3, .int 9]) (w12_of l Γ ad A v3 9 σ v19 hc) mw12_88 ⟨Nat.le_of_ble_eq_true rfl, Nat.le_of_ble_eq_true rfl⟩ (dMr (by decide)) rfl rfl rfl (Nat.le_of_ble_eq_true rfl) hl.1 ⟨Nat.zero_le _, Nat.zero_le _⟩ dX12_refusal_116 (fun H locs hP => ?_)
                refine r_isub cx dX12_refusal_119 hF (fun v20 hF => ?_)
                refine r_aload_n cx dX12_refusal_120 (lv_at hl 1 rfl) ?_
                refine gf12_9 cx hP dX12_refusal_121 ?_
                refine r_bipush cx 6 dX12_refusal_124 (by decide) ?_
                refine r_iald cx hP (dMr (by decide)) rfl dX12_refusal_126 hF (fun v21 hF => ?_)
                refine r_icmp_ge cx 133 dX12_refusal_127 (by decide) hF (fun hF => ?_) (fun hF => ?_)
                · exact b133 p2 _ _ _ hP (lv_sub hl [1, 3] rfl) hF
                · refine r_bipush cx 6 dX12_refusal_130 (by decide) ?_
                  exact r_iret cx hP hr hk dX12_refusal_132 (prF hF)
            · refine r_iconst cx 5 dX12_refusal_93 (by decide) ?_
              exact r_iret cx hP hr hk dX12_refusal_94 (prF hF)
          · refine r_iconst cx 4 dX12_refusal_79 (by decide) ?_
            exact r_iret cx hP hr hk dX12_refusal_80 (prF hF)
        · refine r_iconst cx 3 dX12_refusal_59 (by decide) ?_
          exact r_iret cx hP hr hk dX12_refusal_60 (prF hF)
    · refine r_iconst cx 2 dX12_refusal_32 (by decide) ?_
      exact r_iret cx hP hr hk dX12_refusal_33 (prF hF)
  · refine r_iconst cx 1 dX12_refusal_22 (by decide) ?_
    exact r_iret cx hP hr hk dX12_refusal_23 (prF hF)
set_option maxHeartbeats 4000000 in
set_option maxRecDepth 100000 in
theorem w12_show (l : Launch) (Γ : Wc) (ad : Nat → Nat → Nat) (A : Nat → Prop) (p1 : Int32) (p2 : Int32) (σ : Sig) (r : Int32) (σ1 : Sig) (hF : f12_show p1 p2 σ = some (r, σ1)) : MI l SM Γ ad A yX12_show cX12_show 5 (some .int) 3 66 [.ref (ad 0 0), .int p1, .int p2] σ r σ1 := by
  refine MI.of (by decide) (Nat.le_of_ble_eq_true rfl) ?_
  intro p e s m args below meth c ls cx hr hk hP hl
  have hl : lv_has ls 5 [(0, .ref (ad 0 0)), (1, .int p1), (2, .int p2)] := hl
  rw [f12_show] at hF
  generalize hH0 : s.heap = H0 at hP ⊢
  generalize ([] : List Loc) = locs0 at hP ⊢
  clear hH0
  have b25 : ∀ (x1 : Int32) (x2 : Int32) (x3 : Int32) (t1 : Int32) (t2 : Int32) (t3 : Int32) (σ : Sig) (H : Heap) (locs : List Loc) (ls : Array Slot), PS SM Γ ad A s σ H locs → lv_has ls 5 [(0, .ref (ad 0 0)), (1, .int x1), (2, .int x2), (3, .int x3)] → f12_show_b25 x1 x2 x3 t1 t2 t3 σ = some (r, σ1) → W p l e (rmz 3 66) s m args below meth c H locs 0 0 (QI SM Γ ad A below args s r σ1) (F0 m 25 ls [.int t3, .int t2, .int t1, .ref (ad 0 1)]) := by
    intro x1 x2 x3 t1 t2 t3 σ H locs ls hP hl hF
    rw [f12_show_b25] at hF
    refine r_iadd cx dX12_show_25 hF (fun v1 hF => ?_)
    refine r_iast cx hP (dMr (by decide)) (fun _ => rfl) dX12_show_26 hF (fun s2 H locs hP hF => ?_)
    refine r_iload_n cx dX12_show_27 (lv_at hl 3 rfl) ?_
    refine r_if_ne cx 140 dX12_show_28 (by decide) hF (fun hF => ?_) (fun hF => ?_)
    · refine r_iload_n cx dX12_show_140 (lv_at hl 3 rfl) ?_
      exact r_iret cx hP hr hk dX12_show_141 hF
    · refine r_aload_n cx dX12_show_31 (lv_at hl 0 rfl) ?_
      refine r_iload_n cx dX12_show_32 (lv_at hl 1 rfl) ?_
      obtain ⟨v3, hc, hF⟩ := bnd_some hF
      refine r_callVi cx hP (As := [.int x1]) (w12_passOfCard l Γ ad A x1 s2 v3 hc) mw12_108 ⟨Nat.le_of_ble_eq_true rfl, Nat.le_of_ble_eq_true rfl⟩ (dMr (by decide)) rfl rfl rfl (Nat.le_of_ble_eq_true rfl) hl.1 ⟨Nat.zero_le _, Nat.zero_le _⟩ dX12_show_33 (fun H locs hP => ?_)
      refine r_istore cx [(4, .int v3), (0, .ref (ad 0 0)), (1, .int x1), (2, .int x2), (3, .int x3)] dX12_show_36 hl (by decide) rfl (fun ls hl => ?_)
      refine r_aload_n cx dX12_show_38 (lv_at hl 1 rfl) ?_
      refine r_iload cx dX12_show_39 (lv_at hl 0 rfl) ?_
      refine r_bipush cx 7 dX12_show_41 (by decide) ?_
      refine r_aload_n cx dX12_show_43 (lv_at hl 1 rfl) ?_
      refine r_iload cx dX12_show_44 (lv_at hl 0 rfl) ?_
      refine r_bipush cx 7 dX12_show_46 (by decide) ?_
      obtain ⟨v4, hc, hF⟩ := bnd_some hF
      refine r_callVi cx hP (As := [.int v3, .int 7]) (w12_of l Γ ad A v3 7 s2 v4 hc) mw12_88 ⟨Nat.le_of_ble_eq_true rfl, Nat.le_of_ble_eq_true rfl⟩ (dMr (by decide)) rfl rfl rfl (Nat.le_of_ble_eq_true rfl) hl.1 ⟨Nat.zero_le _, Nat.zero_le _⟩ dX12_show_48 (fun H locs hP => ?_)
      refine r_iconst cx 1 dX12_show_51 (by decide) ?_
      refine r_aload_n cx dX12_show_52 (lv_at hl 1 rfl) ?_
      obtain ⟨v5, hc, hF⟩ := bnd_some hF
      refine r_callVi cx hP (As := []) (w12_today l Γ ad A s2 v5 hc) mw12_81 ⟨Nat.le_of_ble_eq_true rfl, Nat.le_of_ble_eq_true rfl⟩ (dMr (by decide)) rfl rfl rfl (Nat.le_of_ble_eq_true rfl) hl.1 ⟨Nat.zero_le _, Nat.zero_le _⟩ dX12_show_53 (fun H locs hP => ?_)
      refine r_aload_n cx dX12_show_56 (lv_at hl 1 rfl) ?_
      refine r_iload cx dX12_show_57 (lv_at hl 0 rfl) ?_
      refine r_iconst cx 1 dX12_show_59 (by decide) ?_
      obtain ⟨v6, hc, hF⟩ := bnd_some hF
      refine r_callVi cx hP (As := [.int v3, .int 1]) (w12_of l Γ ad A v3 1 s2 v6 hc) mw12_88 ⟨Nat.le_of_ble_eq_true rfl, Nat.le_of_ble_eq_true rfl⟩ (dMr (by decide)) rfl rfl rfl (Nat.le_of_ble_eq_true rfl) hl.1 ⟨Nat.zero_le _, Nat.zero_le _⟩ dX12_show_60 (fun H locs hP => ?_)
      refine r_isub cx dX12_show_63 hF (fun v7 hF => ?_)
      refine r_ishl cx dX12_show_64 hF (fun v8 hF => ?_)
      refine r_ior cx dX12_show_65 hF (fun v9 hF => ?_)
      obtain ⟨s10, hc, hF⟩ := bnd_some hF
      refine r_callVv cx hP (As := [.int v3, .int 7, .int v9]) (w12_put l Γ ad A v3 7 v9 s2 s10 hc) mw12_98 ⟨Nat.le_of_ble_eq_true rfl, Nat.le_of_ble_eq_true rfl⟩ (dMr (by decide)) rfl rfl rfl (Nat.le_of_ble_eq_true rfl) hl.1 ⟨Nat.zero_le _, Nat.zero_le _⟩ dX12_show_66 (fun H locs hP => ?_)
      refine r_aload_n cx dX12_show_69 (lv_at hl 1 rfl) ?_
      refine r_iload cx dX12_show_70 (lv_at hl 0 rfl) ?_
      refine r_bipush cx 8 dX12_show_72 (by decide) ?_
      refine r_aload_n cx dX12_show_74 (lv_at hl 1 rfl) ?_
      refine r_iload cx dX12_show_75 (lv_at hl 0 rfl) ?_
      refine r_bipush cx 8 dX12_show_77 (by decide) ?_
      obtain ⟨v11, hc, hF⟩ := bnd_some hF
      refine r_callVi cx hP (As := [.int v3, .int 8]) (w12_of l Γ ad A v3 8 s10 v11 hc) mw12_88 ⟨Nat.le_of_ble_eq_true rfl, Nat.le_of_ble_eq_true rfl⟩ (dMr (by decide)) rfl rfl rfl (Nat.le_of_ble_eq_true rfl) hl.1 ⟨Nat.zero_le _, Nat.zero_le _⟩ dX12_show_79 (fun H locs hP => ?_)
      refine r_iconst cx 1 dX12_show_82 (by decide) ?_
      refine r_iadd cx dX12_show_83 hF (fun v12 hF => ?_)
      obtain ⟨s13, hc, hF⟩ := bnd_some hF
      refine r_callVv cx hP (As := [.int v3, .int 8, .int v12]) (w12_put l Γ ad A v3 8 v12 s10 s13 hc) mw12_98 ⟨Nat.le_of_ble_eq_true rfl, Nat.le_of_ble_eq_true rfl⟩ (dMr (by decide)) rfl rfl rfl (Nat.le_of_ble_eq_true rfl) hl.1 ⟨Nat.zero_le _, Nat.zero_le _⟩ dX12_show_84 (fun H locs hP => ?_)
      refine r_aload_n cx dX12_show_87 (lv_at hl 1 rfl) ?_
      refine r_iload cx dX12_show_88 (lv_at hl 0 rfl) ?_
      refine r_bipush cx 9 dX12_show_90 (by decide) ?_
      refine r_aload_n cx dX12_show_92 (lv_at hl 1 rfl) ?_
      refine gf12_9 cx hP dX12_show_93 ?_
      refine r_iconst cx 4 dX12_show_96 (by decide) ?_
      refine r_iald cx hP (dMr (by decide)) rfl dX12_show_97 hF (fun v14 hF => ?_)
      obtain ⟨s15, hc, hF⟩ := bnd_some hF
      refine r_callVv cx hP (As := [.int v3, .int 9, .int v14]) (w12_put l Γ ad A v3 9 v14 s13 s15 hc) mw12_98 ⟨Nat.le_of_ble_eq_true rfl, Nat.le_of_ble_eq_true rfl⟩ (dMr (by decide)) rfl rfl rfl (Nat.le_of_ble_eq_true rfl) hl.1 ⟨Nat.zero_le _, Nat.zero_le _⟩ dX12_show_98 (fun H locs hP => ?_)
      refine r_aload_n cx dX12_show_101 (lv_at hl 1 rfl) ?_
      refine r_iload cx dX12_show_102 (lv_at hl 0 rfl) ?_
      refine r_bipush cx 10 dX12_show_104 (by decide) ?_
      refine r_iload_n cx dX12_show_106 (lv_at hl 3 rfl) ?_
      obtain ⟨s16, hc, hF⟩ := bnd_some hF
      refine r_callVv cx hP (As := [.int v3, .int 10, .int x2]) (w12_put l Γ ad A v3 10 x2 s15 s16 hc) mw12_98 ⟨Nat.le_of_ble_eq_true rfl, Nat.le_of_ble_eq_true rfl⟩ (dMr (by decide)) rfl rfl rfl (Nat.le_of_ble_eq_true rfl) hl.1 ⟨Nat.zero_le _, Nat.zero_le _⟩ dX12_show_107 (fun H locs hP => ?_)
      refine r_aload_n cx dX12_show_110 (lv_at hl 1 rfl) ?_
      refine r_iload_n cx dX12_show_111 (lv_at hl 3 rfl) ?_
      refine r_iconst cx 5 dX12_show_112 (by decide) ?_
      refine r_aload_n cx dX12_show_113 (lv_at hl 1 rfl) ?_
      refine r_iload_n cx dX12_show_114 (lv_at hl 3 rfl) ?_
      refine r_iconst cx 5 dX12_show_115 (by decide) ?_
      obtain ⟨v17, hc, hF⟩ := bnd_some hF
      refine r_callVi cx hP (As := [.int x2, .int 5]) (w12_bed l Γ ad A x2 5 s16 v17 hc) mw12_85 ⟨Nat.le_of_ble_eq_true rfl, Nat.le_of_ble_eq_true rfl⟩ (dMr (by decide)) rfl rfl rfl (Nat.le_of_ble_eq_true rfl) hl.1 ⟨Nat.zero_le _, Nat.zero_le _⟩ dX12_show_116 (fun H locs hP => ?_)
      refine r_iconst cx 1 dX12_show_119 (by decide) ?_
      refine r_iadd cx dX12_show_120 hF (fun v18 hF => ?_)
      obtain ⟨s19, hc, hF⟩ := bnd_some hF
      refine r_callVv cx hP (As := [.int x2, .int 5, .int v18]) (w12_putBed l Γ ad A x2 5 v18 s16 s19 hc) mw12_94 ⟨Nat.le_of_ble_eq_true rfl, Nat.le_of_ble_eq_true rfl⟩ (dMr (by decide)) rfl rfl rfl (Nat.le_of_ble_eq_true rfl) hl.1 ⟨Nat.zero_le _, Nat.zero_le _⟩ dX12_show_121 (fun H locs hP => ?_)
      refine r_aload_n cx dX12_show_124 (lv_at hl 1 rfl) ?_
      refine r_iload_n cx dX12_show_125 (lv_at hl 3 rfl) ?_
      refine r_bipush cx 6 dX12_show_126 (by decide) ?_
      refine r_aload_n cx dX12_show_128 (lv_at hl 1 rfl) ?_
      refine r_iload_n cx dX12_show_129 (lv_at hl 3 rfl) ?_
      refine r_bipush cx 6 dX12_show_130 (by decide) ?_
      obtain ⟨v20, hc, hF⟩ := bnd_some hF
      refine r_callVi cx hP (As := [.int x2, .int 6]) (w12_bed l Γ ad A x2 6 s19 v20 hc) mw12_85 ⟨Nat.le_of_ble_eq_true rfl, Nat.le_of_ble_eq_true rfl⟩ (dMr (by decide)) rfl rfl rfl (Nat.le_of_ble_eq_true rfl) hl.1 ⟨Nat.zero_le _, Nat.zero_le _⟩ dX12_show_132 (fun H locs hP => ?_)
      refine r_iconst cx 1 dX12_show_135 (by decide) ?_
      refine r_iadd cx dX12_show_136 hF (fun v21 hF => ?_)
      obtain ⟨s22, hc, hF⟩ := bnd_some hF
      refine r_callVv cx hP (As := [.int x2, .int 6, .int v21]) (w12_putBed l Γ ad A x2 6 v21 s19 s22 hc) mw12_94 ⟨Nat.le_of_ble_eq_true rfl, Nat.le_of_ble_eq_true rfl⟩ (dMr (by decide)) rfl rfl rfl (Nat.le_of_ble_eq_true rfl) hl.1 ⟨Nat.zero_le _, Nat.zero_le _⟩ dX12_show_137 (fun H locs hP => ?_)
      refine r_iload_n cx dX12_show_140 (lv_at hl 4 rfl) ?_
      exact r_iret cx hP hr hk dX12_show_141 hF
  refine r_aload_n cx dX12_show_0 (lv_at hl 0 rfl) ?_
  refine r_iload_n cx dX12_show_1 (lv_at hl 1 rfl) ?_
  refine r_iload_n cx dX12_show_2 (lv_at hl 2 rfl) ?_
  obtain ⟨v23, hc, hF⟩ := bnd_some hF
  refine r_callVi cx hP (As := [.int p1, .int p2]) (w12_refusal l Γ ad A p1 p2 σ v23 hc) mw12_117 ⟨Nat.le_of_ble_eq_true rfl, Nat.le_of_ble_eq_true rfl⟩ (dMr (by decide)) rfl rfl rfl (Nat.le_of_ble_eq_true rfl) hl.1 ⟨Nat.zero_le _, Nat.zero_le _⟩ dX12_show_3 (fun H locs hP => ?_)
  refine r_istore_n cx [(3, .int v23), (0, .ref (ad 0 0)), (1, .int p1), (2, .int p2)] dX12_show_6 hl (by decide) rfl (fun ls hl => ?_)
  refine r_aload_n cx dX12_show_7 (lv_at hl 1 rfl) ?_
  refine gf12_9 cx hP dX12_show_8 ?_
  refine r_bipush cx 13 dX12_show_11 (by decide) ?_
  refine r_dup2 cx dX12_show_13 rfl rfl ?_
  refine r_iald cx hP (dMr (by decide)) rfl dX12_show_14 hF (fun v24 hF => ?_)
  refine r_iload_n cx dX12_show_15 (lv_at hl 0 rfl) ?_
  refine r_iconst cx 2 dX12_show_16 (by decide) ?_
  refine r_icmp_ne cx 24 dX12_show_17 (by decide) hF (fun hF => ?_) (fun hF => ?_)
  · refine r_iconst cx 0 dX12_show_24 (by decide) ?_
    exact b25 p1 p2 v23 13 v24 0 σ _ _ _ hP (lv_sub hl [1, 2, 3, 0] rfl) hF
  · refine r_iconst cx 1 dX12_show_20 (by decide) ?_
    refine r_goto cx 25 dX12_show_21 (by decide) ?_
    exact b25 p1 p2 v23 13 v24 1 σ _ _ _ hP (lv_sub hl [1, 2, 3, 0] rfl) hF
set_option maxHeartbeats 4000000 in
set_option maxRecDepth 100000 in
theorem w12_cannotPluck (l : Launch) (Γ : Wc) (ad : Nat → Nat → Nat) (A : Nat → Prop) (p1 : Int32) (p2 : Int32) (σ : Sig) (r : Int32) (hF : f12_cannotPluck p1 p2 σ = some r) : MI l SM Γ ad A yX12_cannotPluck cX12_cannotPluck 4 (some .boolean) 1 22 [.ref (ad 0 0), .int p1, .int p2] σ r σ := by
  refine MI.of (by decide) (Nat.le_of_ble_eq_true rfl) ?_
  intro p e s m args below meth c ls cx hr hk hP hl
  have hl : lv_has ls 4 [(0, .ref (ad 0 0)), (1, .int p1), (2, .int p2)] := hl
  rw [f12_cannotPluck] at hF
  refine r_aload_n cx dX12_cannotPluck_0 (lv_at hl 0 rfl) ?_
  refine r_iload_n cx dX12_cannotPluck_1 (lv_at hl 1 rfl) ?_
  obtain ⟨v1, hc, hF⟩ := bnd_some hF
  refine r_callVi cx hP (As := [.int p1]) (w12_passOfCard l Γ ad A p1 σ v1 hc) mw12_108 ⟨Nat.le_of_ble_eq_true rfl, Nat.le_of_ble_eq_true rfl⟩ (dMr (by decide)) rfl rfl rfl (Nat.le_of_ble_eq_true rfl) hl.1 ⟨Nat.zero_le _, Nat.zero_le _⟩ dX12_cannotPluck_2 (fun H locs hP => ?_)
  refine r_istore_n cx [(3, .int v1), (0, .ref (ad 0 0)), (1, .int p1), (2, .int p2)] dX12_cannotPluck_5 hl (by decide) rfl (fun ls hl => ?_)
  refine r_aload_n cx dX12_cannotPluck_6 (lv_at hl 1 rfl) ?_
  refine r_iload_n cx dX12_cannotPluck_7 (lv_at hl 2 rfl) ?_
  obtain ⟨v2, hc, hF⟩ := bnd_some hF
  refine r_callVi cx hP (As := [.int p1]) (w12_blocked l Γ ad A p1 σ v2 hc) mw12_111 ⟨Nat.le_of_ble_eq_true rfl, Nat.le_of_ble_eq_true rfl⟩ (dMr (by decide)) rfl rfl rfl (Nat.le_of_ble_eq_true rfl) hl.1 ⟨Nat.zero_le _, Nat.zero_le _⟩ dX12_cannotPluck_8 (fun H locs hP => ?_)
  refine r_if_ne cx 30 dX12_cannotPluck_11 (by decide) hF (fun hF => ?_) (fun hF => ?_)
  · refine r_iconst cx 1 dX12_cannotPluck_30 (by decide) ?_
    exact r_zret cx hP hr hk (by decide) dX12_cannotPluck_31 (prF hF)
  · refine r_aload_n cx dX12_cannotPluck_14 (lv_at hl 1 rfl) ?_
    refine r_iload_n cx dX12_cannotPluck_15 (lv_at hl 0 rfl) ?_
    refine r_bipush cx 9 dX12_cannotPluck_16 (by decide) ?_
    obtain ⟨v3, hc, hF⟩ := bnd_some hF
    refine r_callVi cx hP (As := [.int v1, .int 9]) (w12_of l Γ ad A v1 9 σ v3 hc) mw12_88 ⟨Nat.le_of_ble_eq_true rfl, Nat.le_of_ble_eq_true rfl⟩ (dMr (by decide)) rfl rfl rfl (Nat.le_of_ble_eq_true rfl) hl.1 ⟨Nat.zero_le _, Nat.zero_le _⟩ dX12_cannotPluck_18 (fun H locs hP => ?_)
    refine r_aload_n cx dX12_cannotPluck_21 (lv_at hl 1 rfl) ?_
    refine gf12_9 cx hP dX12_cannotPluck_22 ?_
    refine r_iconst cx 4 dX12_cannotPluck_25 (by decide) ?_
    refine r_iald cx hP (dMr (by decide)) rfl dX12_cannotPluck_26 hF (fun v4 hF => ?_)
    refine r_icmp_eq cx 32 dX12_cannotPluck_27 (by decide) hF (fun hF => ?_) (fun hF => ?_)
    · refine r_aload_n cx dX12_cannotPluck_32 (lv_at hl 1 rfl) ?_
      refine r_aload_n cx dX12_cannotPluck_33 (lv_at hl 1 rfl) ?_
      refine r_iload_n cx dX12_cannotPluck_34 (lv_at hl 0 rfl) ?_
      refine r_bipush cx 10 dX12_cannotPluck_35 (by decide) ?_
      obtain ⟨v5, hc, hF⟩ := bnd_some hF
      refine r_callVi cx hP (As := [.int v1, .int 10]) (w12_of l Γ ad A v1 10 σ v5 hc) mw12_88 ⟨Nat.le_of_ble_eq_true rfl, Nat.le_of_ble_eq_true rfl⟩ (dMr (by decide)) rfl rfl rfl (Nat.le_of_ble_eq_true rfl) hl.1 ⟨Nat.zero_le _, Nat.zero_le _⟩ dX12_cannotPluck_37 (fun H locs hP => ?_)
      refine r_iconst cx 4 dX12_cannotPluck_40 (by decide) ?_
      obtain ⟨v6, hc, hF⟩ := bnd_some hF
      refine r_callVi cx hP (As := [.int v5, .int 4]) (w12_bed l Γ ad A v5 4 σ v6 hc) mw12_85 ⟨Nat.le_of_ble_eq_true rfl, Nat.le_of_ble_eq_true rfl⟩ (dMr (by decide)) rfl rfl rfl (Nat.le_of_ble_eq_true rfl) hl.1 ⟨Nat.zero_le _, Nat.zero_le _⟩ dX12_cannotPluck_41 (fun H locs hP => ?_)
      refine r_iload_n cx dX12_cannotPluck_44 (lv_at hl 3 rfl) ?_
      refine r_icmp_ge cx 52 dX12_cannotPluck_45 (by decide) hF (fun hF => ?_) (fun hF => ?_)
      · refine r_iconst cx 0 dX12_cannotPluck_52 (by decide) ?_
        exact r_zret cx hP hr hk (by decide) dX12_cannotPluck_53 (prF hF)
      · refine r_iconst cx 1 dX12_cannotPluck_48 (by decide) ?_
        refine r_goto cx 53 dX12_cannotPluck_49 (by decide) ?_
        exact r_zret cx hP hr hk (by decide) dX12_cannotPluck_53 (prF hF)
    · refine r_iconst cx 1 dX12_cannotPluck_30 (by decide) ?_
      exact r_zret cx hP hr hk (by decide) dX12_cannotPluck_31 (prF hF)
set_option maxHeartbeats 4000000 in
set_option maxRecDepth 100000 in
theorem w12_take (l : Launch) (Γ : Wc) (ad : Nat → Nat → Nat) (A : Nat → Prop) (p1 : Int32) (p2 : Int32) (σ : Sig) (r : Int32) (σ1 : Sig) (hF : f12_take p1 p2 σ = some (r, σ1)) : MI l SM Γ ad A yX12_take cX12_take 6 (some .int) 3 65 [.ref (ad 0 0), .int p1, .int p2] σ r σ1 := by
  refine MI.of (by decide) (Nat.le_of_ble_eq_true rfl) ?_
  intro p e s m args below meth c ls cx hr hk hP hl
  have hl : lv_has ls 6 [(0, .ref (ad 0 0)), (1, .int p1), (2, .int p2)] := hl
  rw [f12_take] at hF
  refine r_aload_n cx dX12_take_0 (lv_at hl 0 rfl) ?_
  refine r_iload_n cx dX12_take_1 (lv_at hl 1 rfl) ?_
  obtain ⟨v1, hc, hF⟩ := bnd_some hF
  refine r_callVi cx hP (As := [.int p1]) (w12_passOfCard l Γ ad A p1 σ v1 hc) mw12_108 ⟨Nat.le_of_ble_eq_true rfl, Nat.le_of_ble_eq_true rfl⟩ (dMr (by decide)) rfl rfl rfl (Nat.le_of_ble_eq_true rfl) hl.1 ⟨Nat.zero_le _, Nat.zero_le _⟩ dX12_take_2 (fun H locs hP => ?_)
  refine r_istore_n cx [(3, .int v1), (0, .ref (ad 0 0)), (1, .int p1), (2, .int p2)] dX12_take_5 hl (by decide) rfl (fun ls hl => ?_)
  refine r_aload_n cx dX12_take_6 (lv_at hl 1 rfl) ?_
  refine r_iload_n cx dX12_take_7 (lv_at hl 0 rfl) ?_
  refine r_bipush cx 10 dX12_take_8 (by decide) ?_
  obtain ⟨v2, hc, hF⟩ := bnd_some hF
  refine r_callVi cx hP (As := [.int v1, .int 10]) (w12_of l Γ ad A v1 10 σ v2 hc) mw12_88 ⟨Nat.le_of_ble_eq_true rfl, Nat.le_of_ble_eq_true rfl⟩ (dMr (by decide)) rfl rfl rfl (Nat.le_of_ble_eq_true rfl) hl.1 ⟨Nat.zero_le _, Nat.zero_le _⟩ dX12_take_10 (fun H locs hP => ?_)
  refine r_istore cx [(4, .int v2), (3, .int v1), (0, .ref (ad 0 0)), (1, .int p1), (2, .int p2)] dX12_take_13 hl (by decide) rfl (fun ls hl => ?_)
  refine r_aload_n cx dX12_take_15 (lv_at hl 2 rfl) ?_
  refine r_iload cx dX12_take_16 (lv_at hl 0 rfl) ?_
  refine r_iload_n cx dX12_take_18 (lv_at hl 4 rfl) ?_
  obtain ⟨v3, hc, hF⟩ := bnd_some hF
  refine r_callVi cx hP (As := [.int v2, .int p2]) (w12_fine l Γ ad A v2 p2 σ v3 hc) mw12_120 ⟨Nat.le_of_ble_eq_true rfl, Nat.le_of_ble_eq_true rfl⟩ (dMr (by decide)) rfl rfl rfl (Nat.le_of_ble_eq_true rfl) hl.1 ⟨Nat.zero_le _, Nat.zero_le _⟩ dX12_take_19 (fun H locs hP => ?_)
  refine r_istore cx [(5, .int v3), (4, .int v2), (3, .int v1), (0, .ref (ad 0 0)), (1, .int p1), (2, .int p2)] dX12_take_22 hl (by decide) rfl (fun ls hl => ?_)
  refine r_aload_n cx dX12_take_24 (lv_at hl 3 rfl) ?_
  refine r_iload cx dX12_take_25 (lv_at hl 1 rfl) ?_
  refine r_iconst cx 4 dX12_take_27 (by decide) ?_
  refine r_aload_n cx dX12_take_28 (lv_at hl 3 rfl) ?_
  refine r_iload cx dX12_take_29 (lv_at hl 1 rfl) ?_
  refine r_iconst cx 4 dX12_take_31 (by decide) ?_
  obtain ⟨v4, hc, hF⟩ := bnd_some hF
  refine r_callVi cx hP (As := [.int v2, .int 4]) (w12_bed l Γ ad A v2 4 σ v4 hc) mw12_85 ⟨Nat.le_of_ble_eq_true rfl, Nat.le_of_ble_eq_true rfl⟩ (dMr (by decide)) rfl rfl rfl (Nat.le_of_ble_eq_true rfl) hl.1 ⟨Nat.zero_le _, Nat.zero_le _⟩ dX12_take_32 (fun H locs hP => ?_)
  refine r_iload_n cx dX12_take_35 (lv_at hl 5 rfl) ?_
  refine r_isub cx dX12_take_36 hF (fun v5 hF => ?_)
  obtain ⟨s6, hc, hF⟩ := bnd_some hF
  refine r_callVv cx hP (As := [.int v2, .int 4, .int v5]) (w12_putBed l Γ ad A v2 4 v5 σ s6 hc) mw12_94 ⟨Nat.le_of_ble_eq_true rfl, Nat.le_of_ble_eq_true rfl⟩ (dMr (by decide)) rfl rfl rfl (Nat.le_of_ble_eq_true rfl) hl.1 ⟨Nat.zero_le _, Nat.zero_le _⟩ dX12_take_37 (fun H locs hP => ?_)
  refine r_aload_n cx dX12_take_40 (lv_at hl 3 rfl) ?_
  refine r_iload_n cx dX12_take_41 (lv_at hl 2 rfl) ?_
  refine r_bipush cx 11 dX12_take_42 (by decide) ?_
  refine r_aload_n cx dX12_take_44 (lv_at hl 3 rfl) ?_
  refine r_iload_n cx dX12_take_45 (lv_at hl 2 rfl) ?_
  refine r_bipush cx 11 dX12_take_46 (by decide) ?_
  obtain ⟨v7, hc, hF⟩ := bnd_some hF
  refine r_callVi cx hP (As := [.int v1, .int 11]) (w12_of l Γ ad A v1 11 s6 v7 hc) mw12_88 ⟨Nat.le_of_ble_eq_true rfl, Nat.le_of_ble_eq_true rfl⟩ (dMr (by decide)) rfl rfl rfl (Nat.le_of_ble_eq_true rfl) hl.1 ⟨Nat.zero_le _, Nat.zero_le _⟩ dX12_take_48 (fun H locs hP => ?_)
  refine r_iload cx dX12_take_51 (lv_at hl 0 rfl) ?_
  refine r_iadd cx dX12_take_53 hF (fun v8 hF => ?_)
  obtain ⟨s9, hc, hF⟩ := bnd_some hF
  refine r_callVv cx hP (As := [.int v1, .int 11, .int v8]) (w12_put l Γ ad A v1 11 v8 s6 s9 hc) mw12_98 ⟨Nat.le_of_ble_eq_true rfl, Nat.le_of_ble_eq_true rfl⟩ (dMr (by decide)) rfl rfl rfl (Nat.le_of_ble_eq_true rfl) hl.1 ⟨Nat.zero_le _, Nat.zero_le _⟩ dX12_take_54 (fun H locs hP => ?_)
  refine r_aload_n cx dX12_take_57 (lv_at hl 3 rfl) ?_
  refine gf12_9 cx hP dX12_take_58 ?_
  refine r_bipush cx 12 dX12_take_61 (by decide) ?_
  refine r_dup2 cx dX12_take_63 rfl rfl ?_
  refine r_iald cx hP (dMr (by decide)) rfl dX12_take_64 hF (fun v10 hF => ?_)
  refine r_iload_n cx dX12_take_65 (lv_at hl 5 rfl) ?_
  refine r_iadd cx dX12_take_66 hF (fun v11 hF => ?_)
  refine r_iast cx hP (dMr (by decide)) (fun _ => rfl) dX12_take_67 hF (fun s12 H locs hP hF => ?_)
  refine r_aload_n cx dX12_take_68 (lv_at hl 3 rfl) ?_
  refine gf12_9 cx hP dX12_take_69 ?_
  refine r_bipush cx 14 dX12_take_72 (by decide) ?_
  refine r_dup2 cx dX12_take_74 rfl rfl ?_
  refine r_iald cx hP (dMr (by decide)) rfl dX12_take_75 hF (fun v13 hF => ?_)
  refine r_iload cx dX12_take_76 (lv_at hl 0 rfl) ?_
  refine r_iadd cx dX12_take_78 hF (fun v14 hF => ?_)
  refine r_iast cx hP (dMr (by decide)) (fun _ => rfl) dX12_take_79 hF (fun s15 H locs hP hF => ?_)
  refine r_iload cx dX12_take_80 (lv_at hl 0 rfl) ?_
  exact r_iret cx hP hr hk dX12_take_82 hF
set_option maxHeartbeats 4000000 in
set_option maxRecDepth 100000 in
theorem w12_lose (l : Launch) (Γ : Wc) (ad : Nat → Nat → Nat) (A : Nat → Prop) (p1 : Int32) (σ : Sig) (r : Int32) (σ1 : Sig) (hF : f12_lose p1 σ = some (r, σ1)) : MI l SM Γ ad A yX12_lose cX12_lose 3 (some .int) 1 23 [.ref (ad 0 0), .int p1] σ r σ1 := by
  refine MI.of (by decide) (Nat.le_of_ble_eq_true rfl) ?_
  intro p e s m args below meth c ls cx hr hk hP hl
  have hl : lv_has ls 3 [(0, .ref (ad 0 0)), (1, .int p1)] := hl
  rw [f12_lose] at hF
  refine r_aload_n cx dX12_lose_0 (lv_at hl 0 rfl) ?_
  refine r_iload_n cx dX12_lose_1 (lv_at hl 1 rfl) ?_
  refine r_iconst cx 5 dX12_lose_2 (by decide) ?_
  obtain ⟨v1, hc, hF⟩ := bnd_some hF
  refine r_callVi cx hP (As := [.int p1, .int 5]) (w12_of l Γ ad A p1 5 σ v1 hc) mw12_88 ⟨Nat.le_of_ble_eq_true rfl, Nat.le_of_ble_eq_true rfl⟩ (dMr (by decide)) rfl rfl rfl (Nat.le_of_ble_eq_true rfl) hl.1 ⟨Nat.zero_le _, Nat.zero_le _⟩ dX12_lose_3 (fun H locs hP => ?_)
  refine r_istore_n cx [(2, .int v1), (0, .ref (ad 0 0)), (1, .int p1)] dX12_lose_6 hl (by decide) rfl (fun ls hl => ?_)
  refine r_aload_n cx dX12_lose_7 (lv_at hl 1 rfl) ?_
  refine gf12_9 cx hP dX12_lose_8 ?_
  refine r_sipush cx 436 dX12_lose_11 (by decide) ?_
  refine r_iconst cx 2 dX12_lose_14 (by decide) ?_
  refine r_iload_n cx dX12_lose_15 (lv_at hl 0 rfl) ?_
  refine r_imul cx dX12_lose_16 hF (fun v2 hF => ?_)
  refine r_iadd cx dX12_lose_17 hF (fun v3 hF => ?_)
  refine r_iconst cx 1 dX12_lose_18 (by decide) ?_
  refine r_iadd cx dX12_lose_19 hF (fun v4 hF => ?_)
  refine r_iconst cx 1 dX12_lose_20 (by decide) ?_
  refine r_iast cx hP (dMr (by decide)) (fun _ => rfl) dX12_lose_21 hF (fun s5 H locs hP hF => ?_)
  refine r_aload_n cx dX12_lose_22 (lv_at hl 1 rfl) ?_
  refine r_iload_n cx dX12_lose_23 (lv_at hl 2 rfl) ?_
  refine r_iconst cx 5 dX12_lose_24 (by decide) ?_
  refine r_iconst cx (-1) dX12_lose_25 (by decide) ?_
  obtain ⟨s6, hc, hF⟩ := bnd_some hF
  refine r_callVv cx hP (As := [.int p1, .int 5, .int (-1)]) (w12_put l Γ ad A p1 5 (-1) s5 s6 hc) mw12_98 ⟨Nat.le_of_ble_eq_true rfl, Nat.le_of_ble_eq_true rfl⟩ (dMr (by decide)) rfl rfl rfl (Nat.le_of_ble_eq_true rfl) hl.1 ⟨Nat.zero_le _, Nat.zero_le _⟩ dX12_lose_26 (fun H locs hP => ?_)
  refine r_iload_n cx dX12_lose_29 (lv_at hl 0 rfl) ?_
  exact r_iret cx hP hr hk dX12_lose_30 hF
set_option maxHeartbeats 4000000 in
set_option maxRecDepth 100000 in
theorem w12_cannotReplace (l : Launch) (Γ : Wc) (ad : Nat → Nat → Nat) (A : Nat → Prop) (p1 : Int32) (σ : Sig) (r : Int32) (hF : f12_cannotReplace p1 σ = some r) : MI l SM Γ ad A yX12_cannotReplace cX12_cannotReplace 2 (some .boolean) 1 22 [.ref (ad 0 0), .int p1] σ r σ := by
  refine MI.of (by decide) (Nat.le_of_ble_eq_true rfl) ?_
  intro p e s m args below meth c ls cx hr hk hP hl
  have hl : lv_has ls 2 [(0, .ref (ad 0 0)), (1, .int p1)] := hl
  rw [f12_cannotReplace] at hF
  generalize hH0 : s.heap = H0 at hP ⊢
  generalize ([] : List Loc) = locs0 at hP ⊢
  clear hH0
  have b32 : ∀ (H : Heap) (locs : List Loc) (ls : Array Slot), PS SM Γ ad A s σ H locs → lv_has ls 2 [] → f12_cannotReplace_b32 σ = some r → W p l e (rmz 1 22) s m args below meth c H locs 0 0 (QI SM Γ ad A below args s r σ) (F0 m 32 ls []) := by
    intro H locs ls hP hl hF
    rw [f12_cannotReplace_b32] at hF
    refine r_iconst cx 1 dX12_cannotReplace_32 (by decide) ?_
    refine r_goto cx 37 dX12_cannotReplace_33 (by decide) ?_
    exact r_zret cx hP hr hk (by decide) dX12_cannotReplace_37 (prF hF)
  refine r_aload_n cx dX12_cannotReplace_0 (lv_at hl 0 rfl) ?_
  refine r_iload_n cx dX12_cannotReplace_1 (lv_at hl 1 rfl) ?_
  refine r_iconst cx 5 dX12_cannotReplace_2 (by decide) ?_
  obtain ⟨v1, hc, hF⟩ := bnd_some hF
  refine r_callVi cx hP (As := [.int p1, .int 5]) (w12_of l Γ ad A p1 5 σ v1 hc) mw12_88 ⟨Nat.le_of_ble_eq_true rfl, Nat.le_of_ble_eq_true rfl⟩ (dMr (by decide)) rfl rfl rfl (Nat.le_of_ble_eq_true rfl) hl.1 ⟨Nat.zero_le _, Nat.zero_le _⟩ dX12_cannotReplace_3 (fun H locs hP => ?_)
  refine r_iconst cx (-1) dX12_cannotReplace_6 (by decide) ?_
  refine r_icmp_ne cx 32 dX12_cannotReplace_7 (by decide) hF (fun hF => ?_) (fun hF => ?_)
  · exact b32 _ _ _ hP (lv_sub hl [] rfl) hF
  · refine r_aload_n cx dX12_cannotReplace_10 (lv_at hl 0 rfl) ?_
    refine r_iload_n cx dX12_cannotReplace_11 (lv_at hl 1 rfl) ?_
    refine r_bipush cx 6 dX12_cannotReplace_12 (by decide) ?_
    obtain ⟨v2, hc, hF⟩ := bnd_some hF
    refine r_callVi cx hP (As := [.int p1, .int 6]) (w12_of l Γ ad A p1 6 σ v2 hc) mw12_88 ⟨Nat.le_of_ble_eq_true rfl, Nat.le_of_ble_eq_true rfl⟩ (dMr (by decide)) rfl rfl rfl (Nat.le_of_ble_eq_true rfl) hl.1 ⟨Nat.zero_le _, Nat.zero_le _⟩ dX12_cannotReplace_14 (fun H locs hP => ?_)
    refine r_iconst cx 1 dX12_cannotReplace_17 (by decide) ?_
    refine r_icmp_eq cx 32 dX12_cannotReplace_18 (by decide) hF (fun hF => ?_) (fun hF => ?_)
    · exact b32 _ _ _ hP (lv_sub hl [] rfl) hF
    · refine r_aload_n cx dX12_cannotReplace_21 (lv_at hl 0 rfl) ?_
      refine gf12_9 cx hP dX12_cannotReplace_22 ?_
      refine r_iconst cx 3 dX12_cannotReplace_25 (by decide) ?_
      refine r_iald cx hP (dMr (by decide)) rfl dX12_cannotReplace_26 hF (fun v3 hF => ?_)
      refine r_bipush cx 50 dX12_cannotReplace_27 (by decide) ?_
      refine r_icmp_ne cx 36 dX12_cannotReplace_29 (by decide) hF (fun hF => ?_) (fun hF => ?_)
      · refine r_iconst cx 0 dX12_cannotReplace_36 (by decide) ?_
        exact r_zret cx hP hr hk (by decide) dX12_cannotReplace_37 (prF hF)
      · exact b32 _ _ _ hP (lv_sub hl [] rfl) hF
set_option maxHeartbeats 4000000 in
set_option maxRecDepth 100000 in
theorem w12_replaceIt (l : Launch) (Γ : Wc) (ad : Nat → Nat → Nat) (A : Nat → Prop) (p1 : Int32) (σ : Sig) (r : Int32) (σ1 : Sig) (hF : f12_replaceIt p1 σ = some (r, σ1)) : MI l SM Γ ad A yX12_replaceIt cX12_replaceIt 2 (some .int) 2 45 [.ref (ad 0 0), .int p1] σ r σ1 := by
  refine MI.of (by decide) (Nat.le_of_ble_eq_true rfl) ?_
  intro p e s m args below meth c ls cx hr hk hP hl
  have hl : lv_has ls 2 [(0, .ref (ad 0 0)), (1, .int p1)] := hl
  rw [f12_replaceIt] at hF
  refine r_aload_n cx dX12_replaceIt_0 (lv_at hl 0 rfl) ?_
  refine gf12_9 cx hP dX12_replaceIt_1 ?_
  refine r_bipush cx 9 dX12_replaceIt_4 (by decide) ?_
  refine r_dup2 cx dX12_replaceIt_6 rfl rfl ?_
  refine r_iald cx hP (dMr (by decide)) rfl dX12_replaceIt_7 hF (fun v1 hF => ?_)
  refine r_iconst cx 5 dX12_replaceIt_8 (by decide) ?_
  refine r_iadd cx dX12_replaceIt_9 hF (fun v2 hF => ?_)
  refine r_iast cx hP (dMr (by decide)) (fun _ => rfl) dX12_replaceIt_10 hF (fun s3 H locs hP hF => ?_)
  refine r_aload_n cx dX12_replaceIt_11 (lv_at hl 0 rfl) ?_
  refine r_iload_n cx dX12_replaceIt_12 (lv_at hl 1 rfl) ?_
  obtain ⟨v4, s5, hc, hF⟩ := bns_some hF
  refine r_callVi cx hP (As := [.int p1]) (w12_makeCard l Γ ad A p1 s3 v4 s5 hc) mw12_105 ⟨Nat.le_of_ble_eq_true rfl, Nat.le_of_ble_eq_true rfl⟩ (dMr (by decide)) rfl rfl rfl (Nat.le_of_ble_eq_true rfl) hl.1 ⟨Nat.zero_le _, Nat.zero_le _⟩ dX12_replaceIt_13 (fun H locs hP => ?_)
  exact r_iret cx hP hr hk dX12_replaceIt_16 hF
set_option maxHeartbeats 4000000 in
set_option maxRecDepth 100000 in
theorem w12_receive (l : Launch) (Γ : Wc) (ad : Nat → Nat → Nat) (A : Nat → Prop) (p1 : Int32) (p2 : Int32) (σ : Sig) (r : Int32) (σ1 : Sig) (hF : f12_receive p1 p2 σ = some (r, σ1)) : MI l SM Γ ad A yX12_receive cX12_receive 3 (some .int) 1 23 [.ref (ad 0 0), .int p1, .int p2] σ r σ1 := by
  refine MI.of (by decide) (Nat.le_of_ble_eq_true rfl) ?_
  intro p e s m args below meth c ls cx hr hk hP hl
  have hl : lv_has ls 3 [(0, .ref (ad 0 0)), (1, .int p1), (2, .int p2)] := hl
  rw [f12_receive] at hF
  refine r_aload_n cx dX12_receive_0 (lv_at hl 0 rfl) ?_
  refine r_iload_n cx dX12_receive_1 (lv_at hl 1 rfl) ?_
  refine r_bipush cx 11 dX12_receive_2 (by decide) ?_
  refine r_aload_n cx dX12_receive_4 (lv_at hl 0 rfl) ?_
  refine r_iload_n cx dX12_receive_5 (lv_at hl 1 rfl) ?_
  refine r_bipush cx 11 dX12_receive_6 (by decide) ?_
  obtain ⟨v1, hc, hF⟩ := bnd_some hF
  refine r_callVi cx hP (As := [.int p1, .int 11]) (w12_of l Γ ad A p1 11 σ v1 hc) mw12_88 ⟨Nat.le_of_ble_eq_true rfl, Nat.le_of_ble_eq_true rfl⟩ (dMr (by decide)) rfl rfl rfl (Nat.le_of_ble_eq_true rfl) hl.1 ⟨Nat.zero_le _, Nat.zero_le _⟩ dX12_receive_8 (fun H locs hP => ?_)
  refine r_iload_n cx dX12_receive_11 (lv_at hl 2 rfl) ?_
  refine r_isub cx dX12_receive_12 hF (fun v2 hF => ?_)
  obtain ⟨s3, hc, hF⟩ := bnd_some hF
  refine r_callVv cx hP (As := [.int p1, .int 11, .int v2]) (w12_put l Γ ad A p1 11 v2 σ s3 hc) mw12_98 ⟨Nat.le_of_ble_eq_true rfl, Nat.le_of_ble_eq_true rfl⟩ (dMr (by decide)) rfl rfl rfl (Nat.le_of_ble_eq_true rfl) hl.1 ⟨Nat.zero_le _, Nat.zero_le _⟩ dX12_receive_13 (fun H locs hP => ?_)
  refine r_aload_n cx dX12_receive_16 (lv_at hl 0 rfl) ?_
  refine gf12_9 cx hP dX12_receive_17 ?_
  refine r_bipush cx 11 dX12_receive_20 (by decide) ?_
  refine r_dup2 cx dX12_receive_22 rfl rfl ?_
  refine r_iald cx hP (dMr (by decide)) rfl dX12_receive_23 hF (fun v4 hF => ?_)
  refine r_iload_n cx dX12_receive_24 (lv_at hl 2 rfl) ?_
  refine r_iadd cx dX12_receive_25 hF (fun v5 hF => ?_)
  refine r_iast cx hP (dMr (by decide)) (fun _ => rfl) dX12_receive_26 hF (fun s6 H locs hP hF => ?_)
  refine r_aload_n cx dX12_receive_27 (lv_at hl 0 rfl) ?_
  refine gf12_9 cx hP dX12_receive_28 ?_
  refine r_bipush cx 9 dX12_receive_31 (by decide) ?_
  refine r_dup2 cx dX12_receive_33 rfl rfl ?_
  refine r_iald cx hP (dMr (by decide)) rfl dX12_receive_34 hF (fun v7 hF => ?_)
  refine r_iload_n cx dX12_receive_35 (lv_at hl 2 rfl) ?_
  refine r_iadd cx dX12_receive_36 hF (fun v8 hF => ?_)
  refine r_iast cx hP (dMr (by decide)) (fun _ => rfl) dX12_receive_37 hF (fun s9 H locs hP hF => ?_)
  refine r_aload_n cx dX12_receive_38 (lv_at hl 0 rfl) ?_
  refine r_iload_n cx dX12_receive_39 (lv_at hl 1 rfl) ?_
  refine r_bipush cx 11 dX12_receive_40 (by decide) ?_
  obtain ⟨v10, hc, hF⟩ := bnd_some hF
  refine r_callVi cx hP (As := [.int p1, .int 11]) (w12_of l Γ ad A p1 11 s9 v10 hc) mw12_88 ⟨Nat.le_of_ble_eq_true rfl, Nat.le_of_ble_eq_true rfl⟩ (dMr (by decide)) rfl rfl rfl (Nat.le_of_ble_eq_true rfl) hl.1 ⟨Nat.zero_le _, Nat.zero_le _⟩ dX12_receive_42 (fun H locs hP => ?_)
  exact r_iret cx hP hr hk dX12_receive_45 hF
set_option maxHeartbeats 4000000 in
set_option maxRecDepth 100000 in
theorem w12_giveBack (l : Launch) (Γ : Wc) (ad : Nat → Nat → Nat) (A : Nat → Prop) (p1 : Int32) (σ : Sig) (r : Int32) (σ1 : Sig) (hF : f12_giveBack p1 σ = some (r, σ1)) : MI l SM Γ ad A yX12_giveBack cX12_giveBack 6 (some .int) 2 46 [.ref (ad 0 0), .int p1] σ r σ1 := by
  refine MI.of (by decide) (Nat.le_of_ble_eq_true rfl) ?_
  intro p e s m args below meth c ls cx hr hk hP hl
  have hl : lv_has ls 6 [(0, .ref (ad 0 0)), (1, .int p1)] := hl
  rw [f12_giveBack] at hF
  generalize hH0 : s.heap = H0 at hP ⊢
  generalize ([] : List Loc) = locs0 at hP ⊢
  clear hH0
  have b76 : ∀ (x1 : Int32) (x2 : Int32) (x3 : Int32) (x4 : Int32) (σ : Sig) (H : Heap) (locs : List Loc) (ls : Array Slot), PS SM Γ ad A s σ H locs → lv_has ls 6 [(0, .ref (ad 0 0)), (1, .int x1), (2, .int x2), (3, .int x3), (4, .int x4)] → f12_giveBack_b76 x1 x2 x3 x4 σ = some (r, σ1) → W p l e (rmz 2 46) s m args below meth c H locs 0 0 (QI SM Γ ad A below args s r σ1) (F0 m 76 ls []) := by
    intro x1 x2 x3 x4 σ H locs ls hP hl hF
    rw [f12_giveBack_b76] at hF
    refine r_aload_n cx dX12_giveBack_76 (lv_at hl 0 rfl) ?_
    refine r_iload_n cx dX12_giveBack_77 (lv_at hl 1 rfl) ?_
    refine r_bipush cx 6 dX12_giveBack_78 (by decide) ?_
    refine r_iconst cx 1 dX12_giveBack_80 (by decide) ?_
    obtain ⟨s1, hc, hF⟩ := bnd_some hF
    refine r_callVv cx hP (As := [.int x1, .int 6, .int 1]) (w12_put l Γ ad A x1 6 1 σ s1 hc) mw12_98 ⟨Nat.le_of_ble_eq_true rfl, Nat.le_of_ble_eq_true rfl⟩ (dMr (by decide)) rfl rfl rfl (Nat.le_of_ble_eq_true rfl) hl.1 ⟨Nat.zero_le _, Nat.zero_le _⟩ dX12_giveBack_81 (fun H locs hP => ?_)
    refine r_iload cx dX12_giveBack_84 (lv_at hl 4 rfl) ?_
    refine r_if_ge cx 93 dX12_giveBack_86 (by decide) hF (fun hF => ?_) (fun hF => ?_)
    · refine r_iload_n cx dX12_giveBack_93 (lv_at hl 2 rfl) ?_
      refine r_iload_n cx dX12_giveBack_94 (lv_at hl 3 rfl) ?_
      refine r_isub cx dX12_giveBack_95 hF (fun v2 hF => ?_)
      exact r_iret cx hP hr hk dX12_giveBack_96 hF
    · refine r_iconst cx (-1) dX12_giveBack_89 (by decide) ?_
      refine r_goto cx 96 dX12_giveBack_90 (by decide) ?_
      exact r_iret cx hP hr hk dX12_giveBack_96 hF
  have b28 : ∀ (x1 : Int32) (x2 : Int32) (t0 : Int32) (σ : Sig) (H : Heap) (locs : List Loc) (ls : Array Slot), PS SM Γ ad A s σ H locs → lv_has ls 6 [(0, .ref (ad 0 0)), (1, .int x1), (2, .int x2)] → f12_giveBack_b28 x1 x2 t0 σ = some (r, σ1) → W p l e (rmz 2 46) s m args below meth c H locs 0 0 (QI SM Γ ad A below args s r σ1) (F0 m 28 ls [.int t0]) := by
    intro x1 x2 t0 σ H locs ls hP hl hF
    rw [f12_giveBack_b28] at hF
    refine r_istore_n cx [(3, .int t0), (0, .ref (ad 0 0)), (1, .int x1), (2, .int x2)] dX12_giveBack_28 hl (by decide) rfl (fun ls hl => ?_)
    refine r_aload_n cx dX12_giveBack_29 (lv_at hl 1 rfl) ?_
    refine r_iload_n cx dX12_giveBack_30 (lv_at hl 2 rfl) ?_
    refine r_iload_n cx dX12_giveBack_31 (lv_at hl 0 rfl) ?_
    obtain ⟨v3, s4, hc, hF⟩ := bns_some hF
    refine r_callVi cx hP (As := [.int x1, .int t0]) (w12_receive l Γ ad A x1 t0 σ v3 s4 hc) mw12_126 ⟨Nat.le_of_ble_eq_true rfl, Nat.le_of_ble_eq_true rfl⟩ (dMr (by decide)) rfl rfl rfl (Nat.le_of_ble_eq_true rfl) hl.1 ⟨Nat.zero_le _, Nat.zero_le _⟩ dX12_giveBack_32 (fun H locs hP => ?_)
    refine r_istore cx [(4, .int v3), (3, .int t0), (0, .ref (ad 0 0)), (1, .int x1), (2, .int x2)] dX12_giveBack_35 hl (by decide) rfl (fun ls hl => ?_)
    refine r_aload_n cx dX12_giveBack_37 (lv_at hl 2 rfl) ?_
    refine gf12_9 cx hP dX12_giveBack_38 ?_
    refine r_bipush cx 10 dX12_giveBack_41 (by decide) ?_
    refine r_dup2 cx dX12_giveBack_43 rfl rfl ?_
    refine r_iald cx hP (dMr (by decide)) rfl dX12_giveBack_44 hF (fun v5 hF => ?_)
    refine r_iload_n cx dX12_giveBack_45 (lv_at hl 4 rfl) ?_
    refine r_iadd cx dX12_giveBack_46 hF (fun v6 hF => ?_)
    refine r_iast cx hP (dMr (by decide)) (fun _ => rfl) dX12_giveBack_47 hF (fun s7 H locs hP hF => ?_)
    refine r_aload_n cx dX12_giveBack_48 (lv_at hl 2 rfl) ?_
    refine gf12_9 cx hP dX12_giveBack_49 ?_
    refine r_bipush cx 9 dX12_giveBack_52 (by decide) ?_
    refine r_dup2 cx dX12_giveBack_54 rfl rfl ?_
    refine r_iald cx hP (dMr (by decide)) rfl dX12_giveBack_55 hF (fun v8 hF => ?_)
    refine r_iload_n cx dX12_giveBack_56 (lv_at hl 4 rfl) ?_
    refine r_isub cx dX12_giveBack_57 hF (fun v9 hF => ?_)
    refine r_iast cx hP (dMr (by decide)) (fun _ => rfl) dX12_giveBack_58 hF (fun s10 H locs hP hF => ?_)
    refine r_aload_n cx dX12_giveBack_59 (lv_at hl 2 rfl) ?_
    refine r_iload_n cx dX12_giveBack_60 (lv_at hl 3 rfl) ?_
    refine r_iconst cx 5 dX12_giveBack_61 (by decide) ?_
    obtain ⟨v11, hc, hF⟩ := bnd_some hF
    refine r_callVi cx hP (As := [.int x1, .int 5]) (w12_of l Γ ad A x1 5 s10 v11 hc) mw12_88 ⟨Nat.le_of_ble_eq_true rfl, Nat.le_of_ble_eq_true rfl⟩ (dMr (by decide)) rfl rfl rfl (Nat.le_of_ble_eq_true rfl) hl.1 ⟨Nat.zero_le _, Nat.zero_le _⟩ dX12_giveBack_62 (fun H locs hP => ?_)
    refine r_iconst cx (-1) dX12_giveBack_65 (by decide) ?_
    refine r_icmp_eq cx 76 dX12_giveBack_66 (by decide) hF (fun hF => ?_) (fun hF => ?_)
    · exact b76 x1 x2 t0 v3 s10 _ _ _ hP (lv_sub hl [2, 3, 4, 1, 0] rfl) hF
    · refine r_aload_n cx dX12_giveBack_69 (lv_at hl 2 rfl) ?_
      refine r_iload_n cx dX12_giveBack_70 (lv_at hl 3 rfl) ?_
      obtain ⟨v12, s13, hc, hF⟩ := bns_some hF
      refine r_callVi cx hP (As := [.int x1]) (w12_lose l Γ ad A x1 s10 v12 s13 hc) mw12_59 ⟨Nat.le_of_ble_eq_true rfl, Nat.le_of_ble_eq_true rfl⟩ (dMr (by decide)) rfl rfl rfl (Nat.le_of_ble_eq_true rfl) hl.1 ⟨Nat.zero_le _, Nat.zero_le _⟩ dX12_giveBack_71 (fun H locs hP => ?_)
      refine r_istore cx [(5, .int v12), (4, .int v3), (3, .int t0), (0, .ref (ad 0 0)), (1, .int x1), (2, .int x2)] dX12_giveBack_74 hl (by decide) rfl (fun ls hl => ?_)
      exact b76 x1 x2 t0 v3 s13 _ _ _ hP (lv_sub hl [3, 4, 5, 2, 1] rfl) hF
  refine r_aload_n cx dX12_giveBack_0 (lv_at hl 0 rfl) ?_
  refine r_iload_n cx dX12_giveBack_1 (lv_at hl 1 rfl) ?_
  obtain ⟨v14, hc, hF⟩ := bnd_some hF
  refine r_callVi cx hP (As := [.int p1]) (w12_refund l Γ ad A p1 σ v14 hc) mw12_123 ⟨Nat.le_of_ble_eq_true rfl, Nat.le_of_ble_eq_true rfl⟩ (dMr (by decide)) rfl rfl rfl (Nat.le_of_ble_eq_true rfl) hl.1 ⟨Nat.zero_le _, Nat.zero_le _⟩ dX12_giveBack_2 (fun H locs hP => ?_)
  refine r_istore_n cx [(2, .int v14), (0, .ref (ad 0 0)), (1, .int p1)] dX12_giveBack_5 hl (by decide) rfl (fun ls hl => ?_)
  refine r_aload_n cx dX12_giveBack_6 (lv_at hl 1 rfl) ?_
  refine r_iload_n cx dX12_giveBack_7 (lv_at hl 2 rfl) ?_
  refine r_bipush cx 11 dX12_giveBack_8 (by decide) ?_
  obtain ⟨v15, hc, hF⟩ := bnd_some hF
  refine r_callVi cx hP (As := [.int p1, .int 11]) (w12_of l Γ ad A p1 11 σ v15 hc) mw12_88 ⟨Nat.le_of_ble_eq_true rfl, Nat.le_of_ble_eq_true rfl⟩ (dMr (by decide)) rfl rfl rfl (Nat.le_of_ble_eq_true rfl) hl.1 ⟨Nat.zero_le _, Nat.zero_le _⟩ dX12_giveBack_10 (fun H locs hP => ?_)
  refine r_iload_n cx dX12_giveBack_13 (lv_at hl 0 rfl) ?_
  refine r_icmp_ge cx 27 dX12_giveBack_14 (by decide) hF (fun hF => ?_) (fun hF => ?_)
  · refine r_iload_n cx dX12_giveBack_27 (lv_at hl 0 rfl) ?_
    exact b28 p1 v14 v14 σ _ _ _ hP (lv_sub hl [1, 2, 0] rfl) hF
  · refine r_aload_n cx dX12_giveBack_17 (lv_at hl 1 rfl) ?_
    refine r_iload_n cx dX12_giveBack_18 (lv_at hl 2 rfl) ?_
    refine r_bipush cx 11 dX12_giveBack_19 (by decide) ?_
    obtain ⟨v16, hc, hF⟩ := bnd_some hF
    refine r_callVi cx hP (As := [.int p1, .int 11]) (w12_of l Γ ad A p1 11 σ v16 hc) mw12_88 ⟨Nat.le_of_ble_eq_true rfl, Nat.le_of_ble_eq_true rfl⟩ (dMr (by decide)) rfl rfl rfl (Nat.le_of_ble_eq_true rfl) hl.1 ⟨Nat.zero_le _, Nat.zero_le _⟩ dX12_giveBack_21 (fun H locs hP => ?_)
    refine r_goto cx 28 dX12_giveBack_24 (by decide) ?_
    exact b28 p1 v14 v16 σ _ _ _ hP (lv_sub hl [1, 2, 0] rfl) hF
set_option maxHeartbeats 4000000 in
set_option maxRecDepth 100000 in
theorem w12_renew (l : Launch) (Γ : Wc) (ad : Nat → Nat → Nat) (A : Nat → Prop) (p1 : Int32) (p2 : Int32) (p3 : Int32) (σ : Sig) (r : Int32) (σ1 : Sig) (hF : f12_renew p1 p2 p3 σ = some (r, σ1)) : MI l SM Γ ad A yX12_renew cX12_renew 6 (some .int) 1 25 [.ref (ad 0 0), .int p1, .int p2, .int p3] σ r σ1 := by
  refine MI.of (by decide) (Nat.le_of_ble_eq_true rfl) ?_
  intro p e s m args below meth c ls cx hr hk hP hl
  have hl : lv_has ls 6 [(0, .ref (ad 0 0)), (1, .int p1), (2, .int p2), (3, .int p3)] := hl
  rw [f12_renew] at hF
  generalize hH0 : s.heap = H0 at hP ⊢
  generalize ([] : List Loc) = locs0 at hP ⊢
  clear hH0
  have b38 : ∀ (x1 : Int32) (x2 : Int32) (x3 : Int32) (t0 : Int32) (σ : Sig) (H : Heap) (locs : List Loc) (ls : Array Slot), PS SM Γ ad A s σ H locs → lv_has ls 6 [(0, .ref (ad 0 0)), (1, .int x1), (2, .int x2), (3, .int x3)] → f12_renew_b38 x1 x2 x3 t0 σ = some (r, σ1) → W p l e (rmz 1 25) s m args below meth c H locs 0 0 (QI SM Γ ad A below args s r σ1) (F0 m 38 ls [.int t0]) := by
    intro x1 x2 x3 t0 σ H locs ls hP hl hF
    rw [f12_renew_b38] at hF
    refine r_istore cx [(5, .int t0), (0, .ref (ad 0 0)), (1, .int x1), (2, .int x2), (3, .int x3)] dX12_renew_38 hl (by decide) rfl (fun ls hl => ?_)
    refine r_aload_n cx dX12_renew_40 (lv_at hl 1 rfl) ?_
    refine r_iload_n cx dX12_renew_41 (lv_at hl 2 rfl) ?_
    refine r_iconst cx 0 dX12_renew_42 (by decide) ?_
    refine r_iload_n cx dX12_renew_43 (lv_at hl 3 rfl) ?_
    obtain ⟨s1, hc, hF⟩ := bnd_some hF
    refine r_callVv cx hP (As := [.int x1, .int 0, .int x2]) (w12_put l Γ ad A x1 0 x2 σ s1 hc) mw12_98 ⟨Nat.le_of_ble_eq_true rfl, Nat.le_of_ble_eq_true rfl⟩ (dMr (by decide)) rfl rfl rfl (Nat.le_of_ble_eq_true rfl) hl.1 ⟨Nat.zero_le _, Nat.zero_le _⟩ dX12_renew_44 (fun H locs hP => ?_)
    refine r_aload_n cx dX12_renew_47 (lv_at hl 1 rfl) ?_
    refine r_iload_n cx dX12_renew_48 (lv_at hl 2 rfl) ?_
    refine r_iconst cx 2 dX12_renew_49 (by decide) ?_
    refine r_iload_n cx dX12_renew_50 (lv_at hl 4 rfl) ?_
    obtain ⟨s2, hc, hF⟩ := bnd_some hF
    refine r_callVv cx hP (As := [.int x1, .int 2, .int x3]) (w12_put l Γ ad A x1 2 x3 s1 s2 hc) mw12_98 ⟨Nat.le_of_ble_eq_true rfl, Nat.le_of_ble_eq_true rfl⟩ (dMr (by decide)) rfl rfl rfl (Nat.le_of_ble_eq_true rfl) hl.1 ⟨Nat.zero_le _, Nat.zero_le _⟩ dX12_renew_51 (fun H locs hP => ?_)
    refine r_aload_n cx dX12_renew_54 (lv_at hl 1 rfl) ?_
    refine r_iload_n cx dX12_renew_55 (lv_at hl 2 rfl) ?_
    refine r_iconst cx 4 dX12_renew_56 (by decide) ?_
    refine r_aload_n cx dX12_renew_57 (lv_at hl 1 rfl) ?_
    refine r_iload_n cx dX12_renew_58 (lv_at hl 2 rfl) ?_
    refine r_iconst cx 4 dX12_renew_59 (by decide) ?_
    obtain ⟨v3, hc, hF⟩ := bnd_some hF
    refine r_callVi cx hP (As := [.int x1, .int 4]) (w12_of l Γ ad A x1 4 s2 v3 hc) mw12_88 ⟨Nat.le_of_ble_eq_true rfl, Nat.le_of_ble_eq_true rfl⟩ (dMr (by decide)) rfl rfl rfl (Nat.le_of_ble_eq_true rfl) hl.1 ⟨Nat.zero_le _, Nat.zero_le _⟩ dX12_renew_60 (fun H locs hP => ?_)
    refine r_iload cx dX12_renew_63 (lv_at hl 0 rfl) ?_
    refine r_iadd cx dX12_renew_65 hF (fun v4 hF => ?_)
    obtain ⟨s5, hc, hF⟩ := bnd_some hF
    refine r_callVv cx hP (As := [.int x1, .int 4, .int v4]) (w12_put l Γ ad A x1 4 v4 s2 s5 hc) mw12_98 ⟨Nat.le_of_ble_eq_true rfl, Nat.le_of_ble_eq_true rfl⟩ (dMr (by decide)) rfl rfl rfl (Nat.le_of_ble_eq_true rfl) hl.1 ⟨Nat.zero_le _, Nat.zero_le _⟩ dX12_renew_66 (fun H locs hP => ?_)
    refine r_aload_n cx dX12_renew_69 (lv_at hl 1 rfl) ?_
    refine gf12_9 cx hP dX12_renew_70 ?_
    refine r_bipush cx 9 dX12_renew_73 (by decide) ?_
    refine r_dup2 cx dX12_renew_75 rfl rfl ?_
    refine r_iald cx hP (dMr (by decide)) rfl dX12_renew_76 hF (fun v6 hF => ?_)
    refine r_iload cx dX12_renew_77 (lv_at hl 0 rfl) ?_
    refine r_iadd cx dX12_renew_79 hF (fun v7 hF => ?_)
    refine r_iast cx hP (dMr (by decide)) (fun _ => rfl) dX12_renew_80 hF (fun s8 H locs hP hF => ?_)
    refine r_iload cx dX12_renew_81 (lv_at hl 0 rfl) ?_
    exact r_iret cx hP hr hk dX12_renew_83 hF
  refine r_aload_n cx dX12_renew_0 (lv_at hl 0 rfl) ?_
  refine r_iload_n cx dX12_renew_1 (lv_at hl 2 rfl) ?_
  refine r_iload_n cx dX12_renew_2 (lv_at hl 3 rfl) ?_
  refine r_aload_n cx dX12_renew_3 (lv_at hl 0 rfl) ?_
  refine r_iload_n cx dX12_renew_4 (lv_at hl 1 rfl) ?_
  refine r_iconst cx 3 dX12_renew_5 (by decide) ?_
  obtain ⟨v9, hc, hF⟩ := bnd_some hF
  refine r_callVi cx hP (As := [.int p1, .int 3]) (w12_of l Γ ad A p1 3 σ v9 hc) mw12_88 ⟨Nat.le_of_ble_eq_true rfl, Nat.le_of_ble_eq_true rfl⟩ (dMr (by decide)) rfl rfl rfl (Nat.le_of_ble_eq_true rfl) hl.1 ⟨Nat.zero_le _, Nat.zero_le _⟩ dX12_renew_6 (fun H locs hP => ?_)
  obtain ⟨v10, hc, hF⟩ := bnd_some hF
  refine r_callVi cx hP (As := [.int p2, .int p3, .int v9]) (w12_priceFor l Γ ad A p2 p3 v9 σ v10 hc) mw12_101 ⟨Nat.le_of_ble_eq_true rfl, Nat.le_of_ble_eq_true rfl⟩ (dMr (by decide)) rfl rfl rfl (Nat.le_of_ble_eq_true rfl) hl.1 ⟨Nat.zero_le _, Nat.zero_le _⟩ dX12_renew_9 (fun H locs hP => ?_)
  refine r_istore cx [(4, .int v10), (0, .ref (ad 0 0)), (1, .int p1), (2, .int p2), (3, .int p3)] dX12_renew_12 hl (by decide) rfl (fun ls hl => ?_)
  refine r_iload cx dX12_renew_14 (lv_at hl 0 rfl) ?_
  refine r_aload_n cx dX12_renew_16 (lv_at hl 1 rfl) ?_
  refine r_iload_n cx dX12_renew_17 (lv_at hl 2 rfl) ?_
  refine r_iconst cx 4 dX12_renew_18 (by decide) ?_
  obtain ⟨v11, hc, hF⟩ := bnd_some hF
  refine r_callVi cx hP (As := [.int p1, .int 4]) (w12_of l Γ ad A p1 4 σ v11 hc) mw12_88 ⟨Nat.le_of_ble_eq_true rfl, Nat.le_of_ble_eq_true rfl⟩ (dMr (by decide)) rfl rfl rfl (Nat.le_of_ble_eq_true rfl) hl.1 ⟨Nat.zero_le _, Nat.zero_le _⟩ dX12_renew_19 (fun H locs hP => ?_)
  refine r_icmp_le cx 37 dX12_renew_22 (by decide) hF (fun hF => ?_) (fun hF => ?_)
  · refine r_iconst cx 0 dX12_renew_37 (by decide) ?_
    exact b38 p1 p2 p3 0 σ _ _ _ hP (lv_sub hl [1, 2, 3, 4] rfl) hF
  · refine r_iload cx dX12_renew_25 (lv_at hl 0 rfl) ?_
    refine r_aload_n cx dX12_renew_27 (lv_at hl 1 rfl) ?_
    refine r_iload_n cx dX12_renew_28 (lv_at hl 2 rfl) ?_
    refine r_iconst cx 4 dX12_renew_29 (by decide) ?_
    obtain ⟨v12, hc, hF⟩ := bnd_some hF
    refine r_callVi cx hP (As := [.int p1, .int 4]) (w12_of l Γ ad A p1 4 σ v12 hc) mw12_88 ⟨Nat.le_of_ble_eq_true rfl, Nat.le_of_ble_eq_true rfl⟩ (dMr (by decide)) rfl rfl rfl (Nat.le_of_ble_eq_true rfl) hl.1 ⟨Nat.zero_le _, Nat.zero_le _⟩ dX12_renew_30 (fun H locs hP => ?_)
    refine r_isub cx dX12_renew_33 hF (fun v13 hF => ?_)
    refine r_goto cx 38 dX12_renew_34 (by decide) ?_
    exact b38 p1 p2 p3 v13 σ _ _ _ hP (lv_sub hl [1, 2, 3, 4] rfl) hF
set_option maxHeartbeats 4000000 in
set_option maxRecDepth 100000 in
theorem w12_isOver (l : Launch) (Γ : Wc) (ad : Nat → Nat → Nat) (A : Nat → Prop) (p1 : Int32) (σ : Sig) (r : Int32) (hF : f12_isOver p1 σ = some r) : MI l SM Γ ad A yX12_isOver cX12_isOver 2 (some .boolean) 2 43 [.ref (ad 0 0), .int p1] σ r σ := by
  refine MI.of (by decide) (Nat.le_of_ble_eq_true rfl) ?_
  intro p e s m args below meth c ls cx hr hk hP hl
  have hl : lv_has ls 2 [(0, .ref (ad 0 0)), (1, .int p1)] := hl
  rw [f12_isOver] at hF
  generalize hH0 : s.heap = H0 at hP ⊢
  generalize ([] : List Loc) = locs0 at hP ⊢
  clear hH0
  have b23 : ∀ (H : Heap) (locs : List Loc) (ls : Array Slot), PS SM Γ ad A s σ H locs → lv_has ls 2 [] → f12_isOver_b23 σ = some r → W p l e (rmz 2 43) s m args below meth c H locs 0 0 (QI SM Γ ad A below args s r σ) (F0 m 23 ls []) := by
    intro H locs ls hP hl hF
    rw [f12_isOver_b23] at hF
    refine r_iconst cx 1 dX12_isOver_23 (by decide) ?_
    refine r_goto cx 28 dX12_isOver_24 (by decide) ?_
    exact r_zret cx hP hr hk (by decide) dX12_isOver_28 (prF hF)
  refine r_aload_n cx dX12_isOver_0 (lv_at hl 0 rfl) ?_
  refine r_iload_n cx dX12_isOver_1 (lv_at hl 1 rfl) ?_
  refine r_bipush cx 6 dX12_isOver_2 (by decide) ?_
  obtain ⟨v1, hc, hF⟩ := bnd_some hF
  refine r_callVi cx hP (As := [.int p1, .int 6]) (w12_of l Γ ad A p1 6 σ v1 hc) mw12_88 ⟨Nat.le_of_ble_eq_true rfl, Nat.le_of_ble_eq_true rfl⟩ (dMr (by decide)) rfl rfl rfl (Nat.le_of_ble_eq_true rfl) hl.1 ⟨Nat.zero_le _, Nat.zero_le _⟩ dX12_isOver_4 (fun H locs hP => ?_)
  refine r_iconst cx 1 dX12_isOver_7 (by decide) ?_
  refine r_icmp_eq cx 23 dX12_isOver_8 (by decide) hF (fun hF => ?_) (fun hF => ?_)
  · exact b23 _ _ _ hP (lv_sub hl [] rfl) hF
  · refine r_aload_n cx dX12_isOver_11 (lv_at hl 0 rfl) ?_
    refine r_iload_n cx dX12_isOver_12 (lv_at hl 1 rfl) ?_
    obtain ⟨v2, hc, hF⟩ := bnd_some hF
    refine r_callVi cx hP (As := [.int p1]) (w12_lastOf l Γ ad A p1 σ v2 hc) mw12_114 ⟨Nat.le_of_ble_eq_true rfl, Nat.le_of_ble_eq_true rfl⟩ (dMr (by decide)) rfl rfl rfl (Nat.le_of_ble_eq_true rfl) hl.1 ⟨Nat.zero_le _, Nat.zero_le _⟩ dX12_isOver_13 (fun H locs hP => ?_)
    refine r_aload_n cx dX12_isOver_16 (lv_at hl 0 rfl) ?_
    obtain ⟨v3, hc, hF⟩ := bnd_some hF
    refine r_callVi cx hP (As := []) (w12_today l Γ ad A σ v3 hc) mw12_81 ⟨Nat.le_of_ble_eq_true rfl, Nat.le_of_ble_eq_true rfl⟩ (dMr (by decide)) rfl rfl rfl (Nat.le_of_ble_eq_true rfl) hl.1 ⟨Nat.zero_le _, Nat.zero_le _⟩ dX12_isOver_17 (fun H locs hP => ?_)
    refine r_icmp_ge cx 27 dX12_isOver_20 (by decide) hF (fun hF => ?_) (fun hF => ?_)
    · refine r_iconst cx 0 dX12_isOver_27 (by decide) ?_
      exact r_zret cx hP hr hk (by decide) dX12_isOver_28 (prF hF)
    · exact b23 _ _ _ hP (lv_sub hl [] rfl) hF
set_option maxHeartbeats 4000000 in
set_option maxRecDepth 100000 in
theorem w12_passOne (l : Launch) (Γ : Wc) (ad : Nat → Nat → Nat) (A : Nat → Prop)  (σ : Sig) (σ1 : Sig) (hF : f12_passOne  σ = some σ1) : MV l SM Γ ad A yX12_passOne cX12_passOne 2 2 43 [.ref (ad 0 0)] σ σ1 := by
  refine MV.of (by decide) (Nat.le_of_ble_eq_true rfl) ?_
  intro p e s m args below meth c ls cx hr hk hP hl
  have hl : lv_has ls 2 [(0, .ref (ad 0 0))] := hl
  rw [f12_passOne] at hF
  generalize hH0 : s.heap = H0 at hP ⊢
  generalize ([] : List Loc) = locs0 at hP ⊢
  clear hH0
  have b81 : ∀ (rc : Int32 → Sig → Option (Sig)) (ih : ∀ (x1 : Int32) (σ : Sig) (H : Heap) (locs : List Loc) (ls : Array Slot), PS SM Γ ad A s σ H locs → lv_has ls 2 [(0, .ref (ad 0 0)), (1, .int x1)] → rc x1 σ = some σ1 → W p l e (rmz 2 43) s m args below meth c H locs 0 0 (QV SM Γ ad A below args s σ1) (F0 m 12 ls [])) (x1 : Int32) (σ : Sig) (H : Heap) (locs : List Loc) (ls : Array Slot), PS SM Γ ad A s σ H locs → lv_has ls 2 [(0, .ref (ad 0 0)), (1, .int x1)] → f12_passOne_b81 rc x1 σ = some σ1 → W p l e (rmz 2 43) s m args below meth c H locs 0 0 (QV SM Γ ad A below args s σ1) (F0 m 81 ls []) := by
    intro rc ih x1 σ H locs ls hP hl hF
    rw [f12_passOne_b81] at hF
    refine r_iinc cx (k := 1) (w := 1) (fun v1 => [(1, .int v1), (0, .ref (ad 0 0))]) dX12_passOne_81 hl rfl (by decide) (by decide) hF (fun _ => rfl) (fun v1 ls hF hl => ?_)
    refine r_goto cx 12 dX12_passOne_84 (by decide) ?_
    exact ih v1 σ _ _ _ hP (lv_sub hl [1, 0] rfl) hF
  have b78 : ∀ (rc : Int32 → Sig → Option (Sig)) (ih : ∀ (x1 : Int32) (σ : Sig) (H : Heap) (locs : List Loc) (ls : Array Slot), PS SM Γ ad A s σ H locs → lv_has ls 2 [(0, .ref (ad 0 0)), (1, .int x1)] → rc x1 σ = some σ1 → W p l e (rmz 2 43) s m args below meth c H locs 0 0 (QV SM Γ ad A below args s σ1) (F0 m 12 ls [])) (x1 : Int32) (t1 : Int32) (t2 : Int32) (t3 : Int32) (σ : Sig) (H : Heap) (locs : List Loc) (ls : Array Slot), PS SM Γ ad A s σ H locs → lv_has ls 2 [(0, .ref (ad 0 0)), (1, .int x1)] → f12_passOne_b78 rc x1 t1 t2 t3 σ = some σ1 → W p l e (rmz 2 43) s m args below meth c H locs 0 0 (QV SM Γ ad A below args s σ1) (F0 m 78 ls [.int t3, .int t2, .int t1, .ref (ad 0 0)]) := by
    intro rc ih x1 t1 t2 t3 σ H locs ls hP hl hF
    rw [f12_passOne_b78] at hF
    obtain ⟨s2, hc, hF⟩ := bnd_some hF
    refine r_callVv cx hP (As := [.int t1, .int t2, .int t3]) (w12_putBed l Γ ad A t1 t2 t3 σ s2 hc) mw12_94 ⟨Nat.le_of_ble_eq_true rfl, Nat.le_of_ble_eq_true rfl⟩ (dMr (by decide)) rfl rfl rfl (Nat.le_of_ble_eq_true rfl) hl.1 ⟨Nat.zero_le _, Nat.zero_le _⟩ dX12_passOne_78 (fun H locs hP => ?_)
    exact b81 rc ih x1 s2 _ _ _ hP (lv_sub hl [0, 1] rfl) hF
  have b12 : ∀ (fu : Nat) (x1 : Int32) (σ : Sig) (H : Heap) (locs : List Loc) (ls : Array Slot), PS SM Γ ad A s σ H locs → lv_has ls 2 [(0, .ref (ad 0 0)), (1, .int x1)] → f12_passOne_b12 fu x1 σ = some σ1 → W p l e (rmz 2 43) s m args below meth c H locs 0 0 (QV SM Γ ad A below args s σ1) (F0 m 12 ls []) := by
    intro fu
    induction fu with
    | zero => intro x1 σ H locs ls hP hl hF; exact nofu hF
    | succ fu ih =>
      intro x1 σ H locs ls hP hl hF
      rw [f12_passOne_b12] at hF
      refine r_iload_n cx dX12_passOne_12 (lv_at hl 1 rfl) ?_
      refine r_aload_n cx dX12_passOne_13 (lv_at hl 0 rfl) ?_
      refine gf12_9 cx hP dX12_passOne_14 ?_
      refine r_iconst cx 1 dX12_passOne_17 (by decide) ?_
      refine r_iald cx hP (dMr (by decide)) rfl dX12_passOne_18 hF (fun v3 hF => ?_)
      refine r_icmp_ge cx 87 dX12_passOne_19 (by decide) hF (fun hF => ?_) (fun hF => ?_)
      · exact r_vret cx hP hr hk dX12_passOne_87 hF
      · refine r_aload_n cx dX12_passOne_22 (lv_at hl 0 rfl) ?_
        refine r_iload_n cx dX12_passOne_23 (lv_at hl 1 rfl) ?_
        refine r_iconst cx 5 dX12_passOne_24 (by decide) ?_
        refine r_iconst cx 0 dX12_passOne_25 (by decide) ?_
        obtain ⟨s4, hc, hF⟩ := bnd_some hF
        refine r_callVv cx hP (As := [.int x1, .int 5, .int 0]) (w12_putBed l Γ ad A x1 5 0 σ s4 hc) mw12_94 ⟨Nat.le_of_ble_eq_true rfl, Nat.le_of_ble_eq_true rfl⟩ (dMr (by decide)) rfl rfl rfl (Nat.le_of_ble_eq_true rfl) hl.1 ⟨Nat.zero_le _, Nat.zero_le _⟩ dX12_passOne_26 (fun H locs hP => ?_)
        refine r_aload_n cx dX12_passOne_29 (lv_at hl 0 rfl) ?_
        refine gf12_9 cx hP dX12_passOne_30 ?_
        refine r_iconst cx 4 dX12_passOne_33 (by decide) ?_
        refine r_iald cx hP (dMr (by decide)) rfl dX12_passOne_34 hF (fun v5 hF => ?_)
        refine r_bipush cx 96 dX12_passOne_35 (by decide) ?_
        refine r_irem cx dX12_passOne_37 hF (fun v6 hF => ?_)
        refine r_if_ne cx 81 dX12_passOne_38 (by decide) hF (fun hF => ?_) (fun hF => ?_)
        · exact b81 (f12_passOne_b12 fu) ih x1 s4 _ _ _ hP (lv_sub hl [0, 1] rfl) hF
        · refine r_aload_n cx dX12_passOne_41 (lv_at hl 0 rfl) ?_
          refine r_iload_n cx dX12_passOne_42 (lv_at hl 1 rfl) ?_
          obtain ⟨v7, hc, hF⟩ := bnd_some hF
          refine r_callVi cx hP (As := [.int x1]) (w12_inSeason l Γ ad A x1 s4 v7 hc) mw12_91 ⟨Nat.le_of_ble_eq_true rfl, Nat.le_of_ble_eq_true rfl⟩ (dMr (by decide)) rfl rfl rfl (Nat.le_of_ble_eq_true rfl) hl.1 ⟨Nat.zero_le _, Nat.zero_le _⟩ dX12_passOne_43 (fun H locs hP => ?_)
          refine r_if_eq cx 81 dX12_passOne_46 (by decide) hF (fun hF => ?_) (fun hF => ?_)
          · exact b81 (f12_passOne_b12 fu) ih x1 s4 _ _ _ hP (lv_sub hl [0, 1] rfl) hF
          · refine r_aload_n cx dX12_passOne_49 (lv_at hl 0 rfl) ?_
            refine r_iload_n cx dX12_passOne_50 (lv_at hl 1 rfl) ?_
            refine r_iconst cx 4 dX12_passOne_51 (by decide) ?_
            refine r_aload_n cx dX12_passOne_52 (lv_at hl 0 rfl) ?_
            refine r_iload_n cx dX12_passOne_53 (lv_at hl 1 rfl) ?_
            refine r_iconst cx 4 dX12_passOne_54 (by decide) ?_
            obtain ⟨v8, hc, hF⟩ := bnd_some hF
            refine r_callVi cx hP (As := [.int x1, .int 4]) (w12_bed l Γ ad A x1 4 s4 v8 hc) mw12_85 ⟨Nat.le_of_ble_eq_true rfl, Nat.le_of_ble_eq_true rfl⟩ (dMr (by decide)) rfl rfl rfl (Nat.le_of_ble_eq_true rfl) hl.1 ⟨Nat.zero_le _, Nat.zero_le _⟩ dX12_passOne_55 (fun H locs hP => ?_)
            refine r_iconst cx 3 dX12_passOne_58 (by decide) ?_
            refine r_iadd cx dX12_passOne_59 hF (fun v9 hF => ?_)
            refine r_bipush cx 50 dX12_passOne_60 (by decide) ?_
            refine r_icmp_ge cx 76 dX12_passOne_62 (by decide) hF (fun hF => ?_) (fun hF => ?_)
            · refine r_bipush cx 50 dX12_passOne_76 (by decide) ?_
              exact b78 (f12_passOne_b12 fu) ih x1 x1 4 50 s4 _ _ _ hP (lv_sub hl [0, 1] rfl) hF
            · refine r_aload_n cx dX12_passOne_65 (lv_at hl 0 rfl) ?_
              refine r_iload_n cx dX12_passOne_66 (lv_at hl 1 rfl) ?_
              refine r_iconst cx 4 dX12_passOne_67 (by decide) ?_
              obtain ⟨v10, hc, hF⟩ := bnd_some hF
              refine r_callVi cx hP (As := [.int x1, .int 4]) (w12_bed l Γ ad A x1 4 s4 v10 hc) mw12_85 ⟨Nat.le_of_ble_eq_true rfl, Nat.le_of_ble_eq_true rfl⟩ (dMr (by decide)) rfl rfl rfl (Nat.le_of_ble_eq_true rfl) hl.1 ⟨Nat.zero_le _, Nat.zero_le _⟩ dX12_passOne_68 (fun H locs hP => ?_)
              refine r_iconst cx 3 dX12_passOne_71 (by decide) ?_
              refine r_iadd cx dX12_passOne_72 hF (fun v11 hF => ?_)
              refine r_goto cx 78 dX12_passOne_73 (by decide) ?_
              exact b78 (f12_passOne_b12 fu) ih x1 x1 4 v11 s4 _ _ _ hP (lv_sub hl [0, 1] rfl) hF
  refine r_aload_n cx dX12_passOne_0 (lv_at hl 0 rfl) ?_
  refine gf12_9 cx hP dX12_passOne_1 ?_
  refine r_iconst cx 4 dX12_passOne_4 (by decide) ?_
  refine r_dup2 cx dX12_passOne_5 rfl rfl ?_
  refine r_iald cx hP (dMr (by decide)) rfl dX12_passOne_6 hF (fun v12 hF => ?_)
  refine r_iconst cx 1 dX12_passOne_7 (by decide) ?_
  refine r_iadd cx dX12_passOne_8 hF (fun v13 hF => ?_)
  refine r_iast cx hP (dMr (by decide)) (fun _ => rfl) dX12_passOne_9 hF (fun s14 H locs hP hF => ?_)
  refine r_iconst cx 0 dX12_passOne_10 (by decide) ?_
  refine r_istore_n cx [(1, .int 0), (0, .ref (ad 0 0))] dX12_passOne_11 hl (by decide) rfl (fun ls hl => ?_)
  exact b12 FU 0 s14 _ _ _ hP (lv_sub hl [1, 0] rfl) hF
set_option maxHeartbeats 4000000 in
set_option maxRecDepth 100000 in
theorem w12_passAll (l : Launch) (Γ : Wc) (ad : Nat → Nat → Nat) (A : Nat → Prop) (p1 : Int32) (σ : Sig) (σ1 : Sig) (hF : f12_passAll p1 σ = some σ1) : MV l SM Γ ad A yX12_passAll cX12_passAll 3 3 64 [.ref (ad 0 0), .int p1] σ σ1 := by
  refine MV.of (by decide) (Nat.le_of_ble_eq_true rfl) ?_
  intro p e s m args below meth c ls cx hr hk hP hl
  have hl : lv_has ls 3 [(0, .ref (ad 0 0)), (1, .int p1)] := hl
  rw [f12_passAll] at hF
  generalize hH0 : s.heap = H0 at hP ⊢
  generalize ([] : List Loc) = locs0 at hP ⊢
  clear hH0
  have b2 : ∀ (fu : Nat) (x1 : Int32) (x2 : Int32) (σ : Sig) (H : Heap) (locs : List Loc) (ls : Array Slot), PS SM Γ ad A s σ H locs → lv_has ls 3 [(0, .ref (ad 0 0)), (1, .int x1), (2, .int x2)] → f12_passAll_b2 fu x1 x2 σ = some σ1 → W p l e (rmz 3 64) s m args below meth c H locs 0 0 (QV SM Γ ad A below args s σ1) (F0 m 2 ls []) := by
    intro fu
    induction fu with
    | zero => intro x1 x2 σ H locs ls hP hl hF; exact nofu hF
    | succ fu ih =>
      intro x1 x2 σ H locs ls hP hl hF
      rw [f12_passAll_b2] at hF
      refine r_iload_n cx dX12_passAll_2 (lv_at hl 2 rfl) ?_
      refine r_iload_n cx dX12_passAll_3 (lv_at hl 1 rfl) ?_
      refine r_icmp_ge cx 17 dX12_passAll_4 (by decide) hF (fun hF => ?_) (fun hF => ?_)
      · exact r_vret cx hP hr hk dX12_passAll_17 hF
      · refine r_aload_n cx dX12_passAll_7 (lv_at hl 0 rfl) ?_
        obtain ⟨s1, hc, hF⟩ := bnd_some hF
        refine r_callVv cx hP (As := []) (w12_passOne l Γ ad A σ s1 hc) mw12_129 ⟨Nat.le_of_ble_eq_true rfl, Nat.le_of_ble_eq_true rfl⟩ (dMr (by decide)) rfl rfl rfl (Nat.le_of_ble_eq_true rfl) hl.1 ⟨Nat.zero_le _, Nat.zero_le _⟩ dX12_passAll_8 (fun H locs hP => ?_)
        refine r_iinc cx (k := 2) (w := 1) (fun v2 => [(2, .int v2), (0, .ref (ad 0 0)), (1, .int x1)]) dX12_passAll_11 hl rfl (by decide) (by decide) hF (fun _ => rfl) (fun v2 ls hF hl => ?_)
        refine r_goto cx 2 dX12_passAll_14 (by decide) ?_
        exact ih x1 v2 s1 _ _ _ hP (lv_sub hl [1, 2, 0] rfl) hF
  refine r_iconst cx 0 dX12_passAll_0 (by decide) ?_
  refine r_istore_n cx [(2, .int 0), (0, .ref (ad 0 0)), (1, .int p1)] dX12_passAll_1 hl (by decide) rfl (fun ls hl => ?_)
  exact b2 FU p1 0 σ _ _ _ hP (lv_sub hl [1, 2, 0] rfl) hF
set_option maxHeartbeats 4000000 in
set_option maxRecDepth 100000 in
theorem w12_change (l : Launch) (Γ : Wc) (ad : Nat → Nat → Nat) (A : Nat → Prop) (p1 : Int32) (p2 : Int32) (σ : Sig) (r : Int32) (σ1 : Sig) (hF : f12_change p1 p2 σ = some (r, σ1)) : MI l SM Γ ad A yX12_change cX12_change 4 (some .int) 2 45 [.ref (ad 0 0), .int p1, .int p2] σ r σ1 := by
  refine MI.of (by decide) (Nat.le_of_ble_eq_true rfl) ?_
  intro p e s m args below meth c ls cx hr hk hP hl
  have hl : lv_has ls 4 [(0, .ref (ad 0 0)), (1, .int p1), (2, .int p2)] := hl
  rw [f12_change] at hF
  refine r_aload_n cx dX12_change_0 (lv_at hl 0 rfl) ?_
  refine r_aload_n cx dX12_change_1 (lv_at hl 0 rfl) ?_
  refine gf12_9 cx hP dX12_change_2 ?_
  obtain ⟨s1, hc, hF⟩ := bnd_some hF
  refine r_callVv cx hP (As := [.ref (ad 0 1)]) (w12_remember l Γ ad A 1 isW_1 σ s1 hc) mw12_132 ⟨Nat.le_of_ble_eq_true rfl, Nat.le_of_ble_eq_true rfl⟩ (dMr (by decide)) rfl rfl rfl (Nat.le_of_ble_eq_true rfl) hl.1 ⟨Nat.zero_le _, Nat.zero_le _⟩ dX12_change_5 (fun H locs hP => ?_)
  refine r_aload_n cx dX12_change_8 (lv_at hl 0 rfl) ?_
  refine gf12_9 cx hP dX12_change_9 ?_
  refine r_iload_n cx dX12_change_12 (lv_at hl 1 rfl) ?_
  refine r_iald cx hP (dMr (by decide)) rfl dX12_change_13 hF (fun v2 hF => ?_)
  refine r_istore_n cx [(3, .int v2), (0, .ref (ad 0 0)), (1, .int p1), (2, .int p2)] dX12_change_14 hl (by decide) rfl (fun ls hl => ?_)
  refine r_aload_n cx dX12_change_15 (lv_at hl 1 rfl) ?_
  refine gf12_9 cx hP dX12_change_16 ?_
  refine r_iload_n cx dX12_change_19 (lv_at hl 2 rfl) ?_
  refine r_iload_n cx dX12_change_20 (lv_at hl 3 rfl) ?_
  refine r_iast cx hP (dMr (by decide)) (fun _ => rfl) dX12_change_21 hF (fun s3 H locs hP hF => ?_)
  refine r_iload_n cx dX12_change_22 (lv_at hl 0 rfl) ?_
  exact r_iret cx hP hr hk dX12_change_23 hF
set_option maxHeartbeats 4000000 in
set_option maxRecDepth 100000 in
theorem w12_setPrice (l : Launch) (Γ : Wc) (ad : Nat → Nat → Nat) (A : Nat → Prop) (p1 : Int32) (p2 : Int32) (σ : Sig) (r : Int32) (σ1 : Sig) (hF : f12_setPrice p1 p2 σ = some (r, σ1)) : MI l SM Γ ad A yX12_setPrice cX12_setPrice 3 (some .int) 3 68 [.ref (ad 0 0), .int p1, .int p2] σ r σ1 := by
  refine MI.of (by decide) (Nat.le_of_ble_eq_true rfl) ?_
  intro p e s m args below meth c ls cx hr hk hP hl
  have hl : lv_has ls 3 [(0, .ref (ad 0 0)), (1, .int p1), (2, .int p2)] := hl
  rw [f12_setPrice] at hF
  generalize hH0 : s.heap = H0 at hP ⊢
  generalize ([] : List Loc) = locs0 at hP ⊢
  clear hH0
  have b25 : ∀ (σ : Sig) (H : Heap) (locs : List Loc) (ls : Array Slot), PS SM Γ ad A s σ H locs → lv_has ls 3 [] → f12_setPrice_b25 σ = some (r, σ1) → W p l e (rmz 3 68) s m args below meth c H locs 0 0 (QI SM Γ ad A below args s r σ1) (F0 m 25 ls []) := by
    intro σ H locs ls hP hl hF
    rw [f12_setPrice_b25] at hF
    refine r_iconst cx 0 dX12_setPrice_25 (by decide) ?_
    refine r_goto cx 38 dX12_setPrice_26 (by decide) ?_
    exact r_iret cx hP hr hk dX12_setPrice_38 hF
  refine r_aload_n cx dX12_setPrice_0 (lv_at hl 0 rfl) ?_
  refine r_iconst cx 0 dX12_setPrice_1 (by decide) ?_
  refine pf12_63 cx hP dX12_setPrice_2 hF (fun s1 H locs hP hF => ?_)
  refine r_aload_n cx dX12_setPrice_5 (lv_at hl 0 rfl) ?_
  refine r_iload_n cx dX12_setPrice_6 (lv_at hl 1 rfl) ?_
  obtain ⟨v2, s3, hc, hF⟩ := bns_some hF
  refine r_callVi cx hP (As := [.int p1]) (w12_noScent l Γ ad A p1 s1 v2 s3 hc) mw12_136 ⟨Nat.le_of_ble_eq_true rfl, Nat.le_of_ble_eq_true rfl⟩ (dMr (by decide)) rfl rfl rfl (Nat.le_of_ble_eq_true rfl) hl.1 ⟨Nat.zero_le _, Nat.zero_le _⟩ dX12_setPrice_7 (fun H locs hP => ?_)
  refine r_if_ne cx 25 dX12_setPrice_10 (by decide) hF (fun hF => ?_) (fun hF => ?_)
  · exact b25 s3 _ _ _ hP (lv_sub hl [] rfl) hF
  · refine r_aload_n cx dX12_setPrice_13 (lv_at hl 0 rfl) ?_
    refine r_iload_n cx dX12_setPrice_14 (lv_at hl 2 rfl) ?_
    refine r_iconst cx 1 dX12_setPrice_15 (by decide) ?_
    refine r_bipush cx 99 dX12_setPrice_16 (by decide) ?_
    refine r_iconst cx 2 dX12_setPrice_18 (by decide) ?_
    obtain ⟨v4, s5, hc, hF⟩ := bns_some hF
    refine r_callVi cx hP (As := [.int p2, .int 1, .int 99, .int 2]) (w12_outside l Γ ad A p2 1 99 2 s3 v4 s5 hc) mw12_73 ⟨Nat.le_of_ble_eq_true rfl, Nat.le_of_ble_eq_true rfl⟩ (dMr (by decide)) rfl rfl rfl (Nat.le_of_ble_eq_true rfl) hl.1 ⟨Nat.zero_le _, Nat.zero_le _⟩ dX12_setPrice_19 (fun H locs hP => ?_)
    refine r_if_eq cx 29 dX12_setPrice_22 (by decide) hF (fun hF => ?_) (fun hF => ?_)
    · refine r_aload_n cx dX12_setPrice_29 (lv_at hl 0 rfl) ?_
      refine r_bipush cx 15 dX12_setPrice_30 (by decide) ?_
      refine r_iload_n cx dX12_setPrice_32 (lv_at hl 1 rfl) ?_
      refine r_iadd cx dX12_setPrice_33 hF (fun v6 hF => ?_)
      refine r_iload_n cx dX12_setPrice_34 (lv_at hl 2 rfl) ?_
      obtain ⟨v7, s8, hc, hF⟩ := bns_some hF
      refine r_callVi cx hP (As := [.int v6, .int p2]) (w12_change l Γ ad A v6 p2 s5 v7 s8 hc) mw12_139 ⟨Nat.le_of_ble_eq_true rfl, Nat.le_of_ble_eq_true rfl⟩ (dMr (by decide)) rfl rfl rfl (Nat.le_of_ble_eq_true rfl) hl.1 ⟨Nat.zero_le _, Nat.zero_le _⟩ dX12_setPrice_35 (fun H locs hP => ?_)
      exact r_iret cx hP hr hk dX12_setPrice_38 hF
    · exact b25 s5 _ _ _ hP (lv_sub hl [] rfl) hF
