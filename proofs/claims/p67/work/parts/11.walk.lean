/-! printed: the walks -/
set_option maxHeartbeats 4000000 in
set_option maxRecDepth 100000 in
theorem w9_readPass (l : Launch) (Γ : Wc) (ad : Nat → Nat → Nat) (A : Nat → Prop)  (σ : Sig) (σ1 : Sig) (hF : f9_readPass  σ = some σ1) : MV l SX Γ ad A yX9_readPass cX9_readPass 2 3 67 [.ref (ad 0 3)] σ σ1 := by
  refine MV.of (by decide) (Nat.le_of_ble_eq_true rfl) ?_
  intro p e s m args below meth c ls cx hr hk hP hl
  have hl : lv_has ls 2 [(0, .ref (ad 0 3))] := hl
  rw [f9_readPass] at hF
  refine r_aload_n cx dX9_readPass_0 (lv_at hl 0 rfl) ?_
  refine r_iconst cx 1 dX9_readPass_1 (by decide) ?_
  refine r_sipush cx 500 dX9_readPass_2 (by decide) ?_
  obtain ⟨v1, s2, hc, hF⟩ := bns_some hF
  refine r_callVi cx hP (As := [.int 1, .int 500]) (w9_nextNumber l Γ ad A 1 500 σ v1 s2 hc) mw9_141 ⟨Nat.le_of_ble_eq_true rfl, Nat.le_of_ble_eq_true rfl⟩ (dXr (by decide)) rfl rfl rfl (Nat.le_of_ble_eq_true rfl) hl.1 ⟨Nat.zero_le _, Nat.zero_le _⟩ dX9_readPass_5 (fun H locs hP => ?_)
  refine r_istore_n cx [(1, .int v1), (0, .ref (ad 0 3))] dX9_readPass_8 hl (by decide) rfl (fun ls hl => ?_)
  refine r_aload_n cx dX9_readPass_9 (lv_at hl 1 rfl) ?_
  obtain ⟨v3, s4, hc, hF⟩ := bns_some hF
  refine r_callVi cx hP (As := []) (w9_isComplete l Γ ad A s2 v3 s4 hc) mw9_144 ⟨Nat.le_of_ble_eq_true rfl, Nat.le_of_ble_eq_true rfl⟩ (dXr (by decide)) rfl rfl rfl (Nat.le_of_ble_eq_true rfl) hl.1 ⟨Nat.zero_le _, Nat.zero_le _⟩ dX9_readPass_10 (fun H locs hP => ?_)
  refine r_if_eq cx 42 dX9_readPass_13 (by decide) hF (fun hF => ?_) (fun hF => ?_)
  · exact r_vret cx hP hr hk dX9_readPass_42 hF
  · refine r_aload_n cx dX9_readPass_16 (lv_at hl 1 rfl) ?_
    refine r_aload_n cx dX9_readPass_17 (lv_at hl 1 rfl) ?_
    refine gf9_12 cx hP dX9_readPass_18 ?_
    refine gf9_165 cx hP (by decide : 10 < 11) dX9_readPass_21 ?_
    refine r_iload_n cx dX9_readPass_24 (lv_at hl 0 rfl) ?_
    obtain ⟨v5, hc, hF⟩ := bnd_some hF
    refine r_callVi cx hP (As := [.int v1]) (w3_canGoOn l Γ ad A 10 (by decide : 10 < 11) v1 s4 v5 hc) mw9_235 ⟨Nat.le_of_ble_eq_true rfl, Nat.le_of_ble_eq_true rfl⟩ (dXg (by decide : 10 < 11) (by decide)) rfl rfl rfl (Nat.le_of_ble_eq_true rfl) hl.1 ⟨Nat.zero_le _, Nat.zero_le _⟩ dX9_readPass_25 (fun H locs hP => ?_)
    obtain ⟨v6, s7, hc, hF⟩ := bns_some hF
    refine r_callVi cx hP (As := [.int v5]) (w9_executes l Γ ad A v5 s4 v6 s7 hc) mw9_154 ⟨Nat.le_of_ble_eq_true rfl, Nat.le_of_ble_eq_true rfl⟩ (dXr (by decide)) rfl rfl rfl (Nat.le_of_ble_eq_true rfl) hl.1 ⟨Nat.zero_le _, Nat.zero_le _⟩ dX9_readPass_28 (fun H locs hP => ?_)
    refine r_if_eq cx 42 dX9_readPass_31 (by decide) hF (fun hF => ?_) (fun hF => ?_)
    · exact r_vret cx hP hr hk dX9_readPass_42 hF
    · refine r_aload_n cx dX9_readPass_34 (lv_at hl 1 rfl) ?_
      refine gf9_12 cx hP dX9_readPass_35 ?_
      refine r_iload_n cx dX9_readPass_38 (lv_at hl 0 rfl) ?_
      obtain ⟨s8, hc, hF⟩ := bnd_some hF
      refine r_callVv cx hP (As := [.int v1]) (w4_letTicksPass l Γ ad A 10 (by decide : 10 < 11) v1 s7 s8 hc) mw9_238 ⟨Nat.le_of_ble_eq_true rfl, Nat.le_of_ble_eq_true rfl⟩ (dXg (by decide : 10 < 11) (by decide)) rfl rfl rfl (Nat.le_of_ble_eq_true rfl) hl.1 ⟨Nat.zero_le _, Nat.zero_le _⟩ dX9_readPass_39 (fun H locs hP => ?_)
      exact r_vret cx hP hr hk dX9_readPass_42 hF
set_option maxHeartbeats 4000000 in
set_option maxRecDepth 100000 in
theorem w7_countDaysLeft (l : Launch) (Γ : Wc) (ad : Nat → Nat → Nat) (A : Nat → Prop) (n : Nat) (hn : n < 11) (p1 : Int32) (p2 : Int32) (σ : Sig) (r : Int32) (hF : f7_countDaysLeft n p1 p2 σ = some r) : MI l SX Γ ad A yX7_countDaysLeft cX7_countDaysLeft 5 (some .int) 1 21 [.ref (ad (n + 1) 4), .int p1, .int p2] σ r σ := by
  refine MI.of (by decide) (Nat.le_of_ble_eq_true rfl) ?_
  intro p e s m args below meth c ls cx hr hk hP hl
  have hl : lv_has ls 5 [(0, .ref (ad (n + 1) 4)), (1, .int p1), (2, .int p2)] := hl
  rw [f7_countDaysLeft] at hF
  generalize hH0 : s.heap = H0 at hP ⊢
  generalize ([] : List Loc) = locs0 at hP ⊢
  clear hH0
  have b44 : ∀ (rc : Int32 → Int32 → Int32 → Sig → Option (Int32)) (ih : ∀ (x1 : Int32) (x3 : Int32) (x4 : Int32) (H : Heap) (locs : List Loc) (ls : Array Slot), PS SX Γ ad A s σ H locs → lv_has ls 5 [(0, .ref (ad (n + 1) 4)), (1, .int x1), (3, .int x3), (4, .int x4)] → rc x1 x3 x4 σ = some r → W p l e (rmz 1 21) s m args below meth c H locs 0 0 (QI SX Γ ad A below args s r σ) (F0 m 16 ls [])) (x1 : Int32) (x3 : Int32) (x4 : Int32) (H : Heap) (locs : List Loc) (ls : Array Slot), PS SX Γ ad A s σ H locs → lv_has ls 5 [(0, .ref (ad (n + 1) 4)), (1, .int x1), (3, .int x3), (4, .int x4)] → f7_countDaysLeft_b44 n rc x1 x3 x4 σ = some r → W p l e (rmz 1 21) s m args below meth c H locs 0 0 (QI SX Γ ad A below args s r σ) (F0 m 44 ls []) := by
    intro rc ih x1 x3 x4 H locs ls hP hl hF
    rw [f7_countDaysLeft_b44] at hF
    refine r_iinc cx (k := 3) (w := 1) (fun v1 => [(4, .int v1), (0, .ref (ad (n + 1) 4)), (1, .int x1), (3, .int x3)]) dX7_countDaysLeft_44 hl rfl (by decide) (by decide) hF (fun _ => rfl) (fun v1 ls hF hl => ?_)
    refine r_goto cx 16 dX7_countDaysLeft_47 (by decide) ?_
    exact ih x1 x3 v1 _ _ _ hP (lv_sub hl [1, 2, 3, 0] rfl) hF
  have b16 : ∀ (fu : Nat) (x1 : Int32) (x3 : Int32) (x4 : Int32) (H : Heap) (locs : List Loc) (ls : Array Slot), PS SX Γ ad A s σ H locs → lv_has ls 5 [(0, .ref (ad (n + 1) 4)), (1, .int x1), (3, .int x3), (4, .int x4)] → f7_countDaysLeft_b16 n fu x1 x3 x4 σ = some r → W p l e (rmz 1 21) s m args below meth c H locs 0 0 (QI SX Γ ad A below args s r σ) (F0 m 16 ls []) := by
    intro fu
    induction fu with
    | zero => intro x1 x3 x4 H locs ls hP hl hF; exact nofu hF
    | succ fu ih =>
      intro x1 x3 x4 H locs ls hP hl hF
      rw [f7_countDaysLeft_b16] at hF
      refine r_iload cx dX7_countDaysLeft_16 (lv_at hl 3 rfl) ?_
      refine r_aload_n cx dX7_countDaysLeft_18 (lv_at hl 0 rfl) ?_
      refine gf7_18 cx hP hn dX7_countDaysLeft_19 ?_
      refine r_iload_n cx dX7_countDaysLeft_22 (lv_at hl 1 rfl) ?_
      refine r_iald cx hP (dXg hn (by decide)) rfl dX7_countDaysLeft_23 hF (fun v2 hF => ?_)
      refine r_icmp_ge cx 50 dX7_countDaysLeft_24 (by decide) hF (fun hF => ?_) (fun hF => ?_)
      · refine r_iload_n cx dX7_countDaysLeft_50 (lv_at hl 2 rfl) ?_
        exact r_iret cx hP hr hk dX7_countDaysLeft_51 (prF hF)
      · refine r_aload_n cx dX7_countDaysLeft_27 (lv_at hl 0 rfl) ?_
        refine gf7_34 cx hP hn dX7_countDaysLeft_28 ?_
        refine r_iload_n cx dX7_countDaysLeft_31 (lv_at hl 1 rfl) ?_
        refine r_iald cx hP (dXg hn (by decide)) rfl dX7_countDaysLeft_32 hF (fun v3 hF => ?_)
        refine r_iload cx dX7_countDaysLeft_33 (lv_at hl 3 rfl) ?_
        refine r_ishr cx dX7_countDaysLeft_35 hF (fun v4 hF => ?_)
        refine r_iconst cx 1 dX7_countDaysLeft_36 (by decide) ?_
        refine r_iand cx dX7_countDaysLeft_37 hF (fun v5 hF => ?_)
        refine r_if_ne cx 44 dX7_countDaysLeft_38 (by decide) hF (fun hF => ?_) (fun hF => ?_)
        · exact b44 (f7_countDaysLeft_b16 n fu) ih x1 x3 x4 _ _ _ hP (lv_sub hl [0, 1, 2, 3] rfl) hF
        · refine r_iinc cx (k := 2) (w := 1) (fun v6 => [(3, .int v6), (0, .ref (ad (n + 1) 4)), (1, .int x1), (4, .int x4)]) dX7_countDaysLeft_41 hl rfl (by decide) (by decide) hF (fun _ => rfl) (fun v6 ls hF hl => ?_)
          exact b44 (f7_countDaysLeft_b16 n fu) ih x1 v6 x4 _ _ _ hP (lv_sub hl [1, 2, 0, 3] rfl) hF
  refine r_iconst cx 0 dX7_countDaysLeft_0 (by decide) ?_
  refine r_istore_n cx [(3, .int 0), (0, .ref (ad (n + 1) 4)), (1, .int p1), (2, .int p2)] dX7_countDaysLeft_1 hl (by decide) rfl (fun ls hl => ?_)
  refine r_iconst cx 0 dX7_countDaysLeft_2 (by decide) ?_
  refine r_iload_n cx dX7_countDaysLeft_3 (lv_at hl 3 rfl) ?_
  refine r_aload_n cx dX7_countDaysLeft_4 (lv_at hl 1 rfl) ?_
  refine gf7_15 cx hP hn dX7_countDaysLeft_5 ?_
  refine r_iload_n cx dX7_countDaysLeft_8 (lv_at hl 2 rfl) ?_
  refine r_iald cx hP (dXg hn (by decide)) rfl dX7_countDaysLeft_9 hF (fun v7 hF => ?_)
  refine r_isub cx dX7_countDaysLeft_10 hF (fun v8 hF => ?_)
  refine r_mmax cx mw7_65 ⟨Nat.le_of_ble_eq_true rfl, Nat.le_of_ble_eq_true rfl⟩ ⟨Nat.zero_le _, Nat.zero_le _⟩ hl.1 dX7_countDaysLeft_11 hF (fun v9 hF => ?_)
  refine r_istore cx [(4, .int v9), (3, .int 0), (0, .ref (ad (n + 1) 4)), (1, .int p1), (2, .int p2)] dX7_countDaysLeft_14 hl (by decide) rfl (fun ls hl => ?_)
  exact b16 FU p1 0 v9 _ _ _ hP (lv_sub hl [2, 3, 1, 0] rfl) hF
set_option maxHeartbeats 4000000 in
set_option maxRecDepth 100000 in
theorem w4_refundNow (l : Launch) (Γ : Wc) (ad : Nat → Nat → Nat) (A : Nat → Prop) (n : Nat) (hn : n < 11) (p1 : Int32) (σ : Sig) (r : Int32) (hF : f4_refundNow n p1 σ = some r) : MI l SX Γ ad A yX4_refundNow cX4_refundNow 3 (some .int) 2 45 [.ref (ad (n + 1) 0), .int p1] σ r σ := by
  refine MI.of (by decide) (Nat.le_of_ble_eq_true rfl) ?_
  intro p e s m args below meth c ls cx hr hk hP hl
  have hl : lv_has ls 3 [(0, .ref (ad (n + 1) 0)), (1, .int p1)] := hl
  rw [f4_refundNow] at hF
  refine r_aload_n cx dX4_refundNow_0 (lv_at hl 0 rfl) ?_
  refine gf4_35 cx hP hn dX4_refundNow_1 ?_
  refine gf4_133 cx hP hn dX4_refundNow_4 ?_
  refine r_iload_n cx dX4_refundNow_7 (lv_at hl 1 rfl) ?_
  refine r_iald cx hP (dXg hn (by decide)) rfl dX4_refundNow_8 hF (fun v1 hF => ?_)
  refine r_istore_n cx [(2, .int v1), (0, .ref (ad (n + 1) 0)), (1, .int p1)] dX4_refundNow_9 hl (by decide) rfl (fun ls hl => ?_)
  refine r_aload_n cx dX4_refundNow_10 (lv_at hl 1 rfl) ?_
  refine gf4_35 cx hP hn dX4_refundNow_11 ?_
  refine gf4_123 cx hP hn dX4_refundNow_14 ?_
  refine r_iload_n cx dX4_refundNow_17 (lv_at hl 2 rfl) ?_
  refine r_zald cx hP (dXg hn (by decide)) rfl dX4_refundNow_18 hF (fun v2 hF => ?_)
  refine r_if_ne cx 26 dX4_refundNow_19 (by decide) hF (fun hF => ?_) (fun hF => ?_)
  · refine r_iconst cx 0 dX4_refundNow_26 (by decide) ?_
    exact r_iret cx hP hr hk dX4_refundNow_27 (prF hF)
  · refine r_iload_n cx dX4_refundNow_22 (lv_at hl 0 rfl) ?_
    refine r_if_ne cx 28 dX4_refundNow_23 (by decide) hF (fun hF => ?_) (fun hF => ?_)
    · refine r_aload_n cx dX4_refundNow_28 (lv_at hl 1 rfl) ?_
      refine gf4_35 cx hP hn dX4_refundNow_29 ?_
      refine gf4_139 cx hP hn dX4_refundNow_32 ?_
      refine r_iload_n cx dX4_refundNow_35 (lv_at hl 2 rfl) ?_
      refine r_iald cx hP (dXg hn (by decide)) rfl dX4_refundNow_36 hF (fun v3 hF => ?_)
      refine r_aload_n cx dX4_refundNow_37 (lv_at hl 1 rfl) ?_
      refine gf4_35 cx hP hn dX4_refundNow_38 ?_
      refine r_iload_n cx dX4_refundNow_41 (lv_at hl 2 rfl) ?_
      refine r_aload_n cx dX4_refundNow_42 (lv_at hl 1 rfl) ?_
      refine gf4_12 cx hP hn dX4_refundNow_43 ?_
      obtain ⟨v4, hc, hF⟩ := bnd_some hF
      refine r_callVi cx hP (As := []) (w3_today l Γ ad A n hn σ v4 hc) mw4_86 ⟨Nat.le_of_ble_eq_true rfl, Nat.le_of_ble_eq_true rfl⟩ (dXg hn (by decide)) rfl rfl rfl (Nat.le_of_ble_eq_true rfl) hl.1 ⟨Nat.zero_le _, Nat.zero_le _⟩ dX4_refundNow_46 (fun H locs hP => ?_)
      obtain ⟨v5, hc, hF⟩ := bnd_some hF
      refine r_callVi cx hP (As := [.int p1, .int v4]) (w7_countDaysLeft l Γ ad A n hn p1 v4 σ v5 hc) mw4_158 ⟨Nat.le_of_ble_eq_true rfl, Nat.le_of_ble_eq_true rfl⟩ (dXg hn (by decide)) rfl rfl rfl (Nat.le_of_ble_eq_true rfl) hl.1 ⟨Nat.zero_le _, Nat.zero_le _⟩ dX4_refundNow_49 (fun H locs hP => ?_)
      refine r_imul cx dX4_refundNow_52 hF (fun v6 hF => ?_)
      refine r_iload_n cx dX4_refundNow_53 (lv_at hl 0 rfl) ?_
      refine r_idiv cx dX4_refundNow_54 hF (fun v7 hF => ?_)
      refine r_iconst cx 2 dX4_refundNow_55 (by decide) ?_
      refine r_idiv cx dX4_refundNow_56 hF (fun v8 hF => ?_)
      exact r_iret cx hP hr hk dX4_refundNow_57 (prF hF)
    · refine r_iconst cx 0 dX4_refundNow_26 (by decide) ?_
      exact r_iret cx hP hr hk dX4_refundNow_27 (prF hF)
set_option maxHeartbeats 4000000 in
set_option maxRecDepth 100000 in
theorem w4_takeBackPass (l : Launch) (Γ : Wc) (ad : Nat → Nat → Nat) (A : Nat → Prop) (n : Nat) (hn : n < 11) (p1 : Int32) (σ : Sig) (r : Int32) (σ1 : Sig) (hF : f4_takeBackPass n p1 σ = some (r, σ1)) : MI l SX Γ ad A yX4_takeBackPass cX4_takeBackPass 4 (some .int) 3 67 [.ref (ad (n + 1) 0), .int p1] σ r σ1 := by
  refine MI.of (by decide) (Nat.le_of_ble_eq_true rfl) ?_
  intro p e s m args below meth c ls cx hr hk hP hl
  have hl : lv_has ls 4 [(0, .ref (ad (n + 1) 0)), (1, .int p1)] := hl
  rw [f4_takeBackPass] at hF
  refine r_aload_n cx dX4_takeBackPass_0 (lv_at hl 0 rfl) ?_
  refine r_iload_n cx dX4_takeBackPass_1 (lv_at hl 1 rfl) ?_
  obtain ⟨v1, hc, hF⟩ := bnd_some hF
  refine r_callVi cx hP (As := [.int p1]) (w4_refundNow l Γ ad A n hn p1 σ v1 hc) mw4_161 ⟨Nat.le_of_ble_eq_true rfl, Nat.le_of_ble_eq_true rfl⟩ (dXg hn (by decide)) rfl rfl rfl (Nat.le_of_ble_eq_true rfl) hl.1 ⟨Nat.zero_le _, Nat.zero_le _⟩ dX4_takeBackPass_2 (fun H locs hP => ?_)
  refine r_istore_n cx [(2, .int v1), (0, .ref (ad (n + 1) 0)), (1, .int p1)] dX4_takeBackPass_5 hl (by decide) rfl (fun ls hl => ?_)
  refine r_iload_n cx dX4_takeBackPass_6 (lv_at hl 0 rfl) ?_
  refine r_aload_n cx dX4_takeBackPass_7 (lv_at hl 1 rfl) ?_
  refine gf4_35 cx hP hn dX4_takeBackPass_8 ?_
  refine gf4_164 cx hP hn dX4_takeBackPass_11 ?_
  refine r_iload_n cx dX4_takeBackPass_14 (lv_at hl 2 rfl) ?_
  refine r_iald cx hP (dXg hn (by decide)) rfl dX4_takeBackPass_15 hF (fun v2 hF => ?_)
  refine r_mmin cx mw4_167 ⟨Nat.le_of_ble_eq_true rfl, Nat.le_of_ble_eq_true rfl⟩ ⟨Nat.zero_le _, Nat.zero_le _⟩ hl.1 dX4_takeBackPass_16 hF (fun v3 hF => ?_)
  refine r_istore_n cx [(3, .int v3), (2, .int v1), (0, .ref (ad (n + 1) 0)), (1, .int p1)] dX4_takeBackPass_19 hl (by decide) rfl (fun ls hl => ?_)
  refine r_aload_n cx dX4_takeBackPass_20 (lv_at hl 2 rfl) ?_
  refine gf4_49 cx hP hn dX4_takeBackPass_21 ?_
  refine r_dup cx dX4_takeBackPass_24 rfl ?_
  refine gf4_170 cx hP hn dX4_takeBackPass_25 hF (fun v4 hF => ?_)
  refine r_iload_n cx dX4_takeBackPass_28 (lv_at hl 1 rfl) ?_
  refine r_iadd cx dX4_takeBackPass_29 hF (fun v5 hF => ?_)
  refine pf4_170 cx hP hn dX4_takeBackPass_30 hF (fun s6 H locs hP hF => ?_)
  refine r_aload_n cx dX4_takeBackPass_33 (lv_at hl 2 rfl) ?_
  refine r_iload_n cx dX4_takeBackPass_34 (lv_at hl 3 rfl) ?_
  refine r_iload_n cx dX4_takeBackPass_35 (lv_at hl 0 rfl) ?_
  obtain ⟨s7, hc, hF⟩ := bnd_some hF
  refine r_callVv cx hP (As := [.int p1, .int v3]) (w4_payFinesOf l Γ ad A n hn p1 v3 s6 s7 hc) mw4_173 ⟨Nat.le_of_ble_eq_true rfl, Nat.le_of_ble_eq_true rfl⟩ (dXg hn (by decide)) rfl rfl rfl (Nat.le_of_ble_eq_true rfl) hl.1 ⟨Nat.zero_le _, Nat.zero_le _⟩ dX4_takeBackPass_36 (fun H locs hP => ?_)
  refine r_aload_n cx dX4_takeBackPass_39 (lv_at hl 2 rfl) ?_
  refine r_iload_n cx dX4_takeBackPass_40 (lv_at hl 3 rfl) ?_
  obtain ⟨v8, s9, hc, hF⟩ := bns_some hF
  refine r_callVi cx hP (As := [.int p1]) (w4_blockCardOf l Γ ad A n hn p1 s7 v8 s9 hc) mw4_177 ⟨Nat.le_of_ble_eq_true rfl, Nat.le_of_ble_eq_true rfl⟩ (dXg hn (by decide)) rfl rfl rfl (Nat.le_of_ble_eq_true rfl) hl.1 ⟨Nat.zero_le _, Nat.zero_le _⟩ dX4_takeBackPass_41 (fun H locs hP => ?_)
  refine r_pop cx dX4_takeBackPass_44 rfl ?_
  refine r_aload_n cx dX4_takeBackPass_45 (lv_at hl 2 rfl) ?_
  refine gf4_35 cx hP hn dX4_takeBackPass_46 ?_
  refine gf4_123 cx hP hn dX4_takeBackPass_49 ?_
  refine r_iload_n cx dX4_takeBackPass_52 (lv_at hl 3 rfl) ?_
  refine r_iconst cx 1 dX4_takeBackPass_53 (by decide) ?_
  refine r_zast cx hP (dXg hn (by decide)) (fun _ => rfl) dX4_takeBackPass_54 hF (fun s10 H locs hP hF => ?_)
  refine r_iload_n cx dX4_takeBackPass_55 (lv_at hl 1 rfl) ?_
  refine r_iload_n cx dX4_takeBackPass_56 (lv_at hl 0 rfl) ?_
  refine r_isub cx dX4_takeBackPass_57 hF (fun v11 hF => ?_)
  exact r_iret cx hP hr hk dX4_takeBackPass_58 hF
set_option maxHeartbeats 4000000 in
set_option maxRecDepth 100000 in
theorem w9_readRefund (l : Launch) (Γ : Wc) (ad : Nat → Nat → Nat) (A : Nat → Prop)  (σ : Sig) (σ1 : Sig) (hF : f9_readRefund  σ = some σ1) : MV l SX Γ ad A yX9_readRefund cX9_readRefund 2 4 90 [.ref (ad 0 3)] σ σ1 := by
  refine MV.of (by decide) (Nat.le_of_ble_eq_true rfl) ?_
  intro p e s m args below meth c ls cx hr hk hP hl
  have hl : lv_has ls 2 [(0, .ref (ad 0 3))] := hl
  rw [f9_readRefund] at hF
  generalize hH0 : s.heap = H0 at hP ⊢
  generalize ([] : List Loc) = locs0 at hP ⊢
  clear hH0
  have b46 : ∀ (x1 : Int32) (t1 : Int32) (σ : Sig) (H : Heap) (locs : List Loc) (ls : Array Slot), PS SX Γ ad A s σ H locs → lv_has ls 2 [(0, .ref (ad 0 3)), (1, .int x1)] → f9_readRefund_b46 x1 t1 σ = some σ1 → W p l e (rmz 4 90) s m args below meth c H locs 0 0 (QV SX Γ ad A below args s σ1) (F0 m 46 ls [.int t1, .ref (ad 0 3)]) := by
    intro x1 t1 σ H locs ls hP hl hF
    rw [f9_readRefund_b46] at hF
    obtain ⟨v1, s2, hc, hF⟩ := bns_some hF
    refine r_callVi cx hP (As := [.int t1]) (w9_executes l Γ ad A t1 σ v1 s2 hc) mw9_154 ⟨Nat.le_of_ble_eq_true rfl, Nat.le_of_ble_eq_true rfl⟩ (dXr (by decide)) rfl rfl rfl (Nat.le_of_ble_eq_true rfl) hl.1 ⟨Nat.zero_le _, Nat.zero_le _⟩ dX9_readRefund_46 (fun H locs hP => ?_)
    refine r_if_eq cx 61 dX9_readRefund_49 (by decide) hF (fun hF => ?_) (fun hF => ?_)
    · exact r_vret cx hP hr hk dX9_readRefund_61 hF
    · refine r_aload_n cx dX9_readRefund_52 (lv_at hl 0 rfl) ?_
      refine gf9_12 cx hP dX9_readRefund_53 ?_
      refine r_iload_n cx dX9_readRefund_56 (lv_at hl 1 rfl) ?_
      obtain ⟨v3, s4, hc, hF⟩ := bns_some hF
      refine r_callVi cx hP (As := [.int x1]) (w4_takeBackPass l Γ ad A 10 (by decide : 10 < 11) x1 s2 v3 s4 hc) mw9_245 ⟨Nat.le_of_ble_eq_true rfl, Nat.le_of_ble_eq_true rfl⟩ (dXg (by decide : 10 < 11) (by decide)) rfl rfl rfl (Nat.le_of_ble_eq_true rfl) hl.1 ⟨Nat.zero_le _, Nat.zero_le _⟩ dX9_readRefund_57 (fun H locs hP => ?_)
      refine r_pop cx dX9_readRefund_60 rfl ?_
      exact r_vret cx hP hr hk dX9_readRefund_61 hF
  refine r_aload_n cx dX9_readRefund_0 (lv_at hl 0 rfl) ?_
  refine r_iconst cx 0 dX9_readRefund_1 (by decide) ?_
  refine r_aload_n cx dX9_readRefund_2 (lv_at hl 0 rfl) ?_
  refine gf9_12 cx hP dX9_readRefund_3 ?_
  refine gf9_203 cx hP (by decide : 10 < 11) dX9_readRefund_6 ?_
  refine gf9_207 cx hP (by decide : 10 < 11) dX9_readRefund_9 hF (fun v5 hF => ?_)
  refine r_iconst cx 1 dX9_readRefund_12 (by decide) ?_
  refine r_isub cx dX9_readRefund_13 hF (fun v6 hF => ?_)
  obtain ⟨v7, s8, hc, hF⟩ := bns_some hF
  refine r_callVi cx hP (As := [.int 0, .int v6]) (w9_nextNumber l Γ ad A 0 v6 σ v7 s8 hc) mw9_141 ⟨Nat.le_of_ble_eq_true rfl, Nat.le_of_ble_eq_true rfl⟩ (dXr (by decide)) rfl rfl rfl (Nat.le_of_ble_eq_true rfl) hl.1 ⟨Nat.zero_le _, Nat.zero_le _⟩ dX9_readRefund_14 (fun H locs hP => ?_)
  refine r_istore_n cx [(1, .int v7), (0, .ref (ad 0 3))] dX9_readRefund_17 hl (by decide) rfl (fun ls hl => ?_)
  refine r_aload_n cx dX9_readRefund_18 (lv_at hl 1 rfl) ?_
  obtain ⟨v9, s10, hc, hF⟩ := bns_some hF
  refine r_callVi cx hP (As := []) (w9_isComplete l Γ ad A s8 v9 s10 hc) mw9_144 ⟨Nat.le_of_ble_eq_true rfl, Nat.le_of_ble_eq_true rfl⟩ (dXr (by decide)) rfl rfl rfl (Nat.le_of_ble_eq_true rfl) hl.1 ⟨Nat.zero_le _, Nat.zero_le _⟩ dX9_readRefund_19 (fun H locs hP => ?_)
  refine r_if_eq cx 61 dX9_readRefund_22 (by decide) hF (fun hF => ?_) (fun hF => ?_)
  · exact r_vret cx hP hr hk dX9_readRefund_61 hF
  · refine r_aload_n cx dX9_readRefund_25 (lv_at hl 1 rfl) ?_
    refine r_aload_n cx dX9_readRefund_26 (lv_at hl 1 rfl) ?_
    refine gf9_12 cx hP dX9_readRefund_27 ?_
    refine gf9_203 cx hP (by decide : 10 < 11) dX9_readRefund_30 ?_
    refine gf9_241 cx hP (by decide : 10 < 11) dX9_readRefund_33 ?_
    refine r_iload_n cx dX9_readRefund_36 (lv_at hl 0 rfl) ?_
    refine r_zald cx hP (dXg (by decide : 10 < 11) (by decide)) rfl dX9_readRefund_37 hF (fun v11 hF => ?_)
    refine r_if_ne cx 45 dX9_readRefund_38 (by decide) hF (fun hF => ?_) (fun hF => ?_)
    · refine r_iconst cx 0 dX9_readRefund_45 (by decide) ?_
      exact b46 v7 0 s10 _ _ _ hP (lv_sub hl [1, 0] rfl) hF
    · refine r_iconst cx 1 dX9_readRefund_41 (by decide) ?_
      refine r_goto cx 46 dX9_readRefund_42 (by decide) ?_
      exact b46 v7 1 s10 _ _ _ hP (lv_sub hl [1, 0] rfl) hF
set_option maxHeartbeats 4000000 in
set_option maxRecDepth 100000 in
theorem w9_readCommand (l : Launch) (Γ : Wc) (ad : Nat → Nat → Nat) (A : Nat → Prop)  (σ : Sig) (σ1 : Sig) (hF : f9_readCommand  σ = some σ1) : MV l SX Γ ad A yX9_readCommand cX9_readCommand 1 7 152 [.ref (ad 0 3)] σ σ1 := by
  refine MV.of (by decide) (Nat.le_of_ble_eq_true rfl) ?_
  intro p e s m args below meth c ls cx hr hk hP hl
  have hl : lv_has ls 1 [(0, .ref (ad 0 3))] := hl
  rw [f9_readCommand] at hF
  generalize hH0 : s.heap = H0 at hP ⊢
  generalize ([] : List Loc) = locs0 at hP ⊢
  clear hH0
  have b195 : ∀ (σ : Sig) (H : Heap) (locs : List Loc) (ls : Array Slot), PS SX Γ ad A s σ H locs → lv_has ls 1 [(0, .ref (ad 0 3))] → f9_readCommand_b195 σ = some σ1 → W p l e (rmz 7 152) s m args below meth c H locs 0 0 (QV SX Γ ad A below args s σ1) (F0 m 195 ls []) := by
    intro σ H locs ls hP hl hF
    rw [f9_readCommand_b195] at hF
    refine r_aload_n cx dX9_readCommand_195 (lv_at hl 0 rfl) ?_
    refine gf9_25 cx hP dX9_readCommand_196 hF (fun v1 hF => ?_)
    refine r_if_ne cx 209 dX9_readCommand_199 (by decide) hF (fun hF => ?_) (fun hF => ?_)
    · exact r_vret cx hP hr hk dX9_readCommand_209 hF
    · refine r_aload_n cx dX9_readCommand_202 (lv_at hl 0 rfl) ?_
      refine gf9_21 cx hP dX9_readCommand_203 ?_
      obtain ⟨s2, hc, hF⟩ := bnd_some hF
      refine r_callVv cx hP (As := []) (w6_readNext l Γ ad A σ s2 hc) mw9_63 ⟨Nat.le_of_ble_eq_true rfl, Nat.le_of_ble_eq_true rfl⟩ (dXr (by decide)) rfl rfl rfl (Nat.le_of_ble_eq_true rfl) hl.1 ⟨Nat.zero_le _, Nat.zero_le _⟩ dX9_readCommand_206 (fun H locs hP => ?_)
      exact r_vret cx hP hr hk dX9_readCommand_209 hF
  refine r_aload_n cx dX9_readCommand_0 (lv_at hl 0 rfl) ?_
  refine gf9_21 cx hP dX9_readCommand_1 ?_
  refine r_ldc cx (k := 2) (by decide) (by decide) dX9_readCommand_4 ?_
  obtain ⟨v3, hc, hF⟩ := bnd_some hF
  refine r_callVi cx hP (As := [.ref (Γ.2.2.1 2)]) (w6_isWord l Γ ad A 2 (by decide) σ v3 hc) mw9_55 ⟨Nat.le_of_ble_eq_true rfl, Nat.le_of_ble_eq_true rfl⟩ (dXr (by decide)) rfl rfl rfl (Nat.le_of_ble_eq_true rfl) hl.1 ⟨Nat.zero_le _, Nat.zero_le _⟩ dX9_readCommand_6 (fun H locs hP => ?_)
  refine r_if_eq cx 19 dX9_readCommand_9 (by decide) hF (fun hF => ?_) (fun hF => ?_)
  · refine r_aload_n cx dX9_readCommand_19 (lv_at hl 0 rfl) ?_
    refine gf9_21 cx hP dX9_readCommand_20 ?_
    refine r_ldc cx (k := 3) (by decide) (by decide) dX9_readCommand_23 ?_
    obtain ⟨v4, hc, hF⟩ := bnd_some hF
    refine r_callVi cx hP (As := [.ref (Γ.2.2.1 3)]) (w6_isWord l Γ ad A 3 (by decide) σ v4 hc) mw9_55 ⟨Nat.le_of_ble_eq_true rfl, Nat.le_of_ble_eq_true rfl⟩ (dXr (by decide)) rfl rfl rfl (Nat.le_of_ble_eq_true rfl) hl.1 ⟨Nat.zero_le _, Nat.zero_le _⟩ dX9_readCommand_25 (fun H locs hP => ?_)
    refine r_if_eq cx 38 dX9_readCommand_28 (by decide) hF (fun hF => ?_) (fun hF => ?_)
    · refine r_aload_n cx dX9_readCommand_38 (lv_at hl 0 rfl) ?_
      refine gf9_21 cx hP dX9_readCommand_39 ?_
      refine r_ldc cx (k := 6) (by decide) (by decide) dX9_readCommand_42 ?_
      obtain ⟨v5, hc, hF⟩ := bnd_some hF
      refine r_callVi cx hP (As := [.ref (Γ.2.2.1 6)]) (w6_isWord l Γ ad A 6 (by decide) σ v5 hc) mw9_55 ⟨Nat.le_of_ble_eq_true rfl, Nat.le_of_ble_eq_true rfl⟩ (dXr (by decide)) rfl rfl rfl (Nat.le_of_ble_eq_true rfl) hl.1 ⟨Nat.zero_le _, Nat.zero_le _⟩ dX9_readCommand_44 (fun H locs hP => ?_)
      refine r_if_eq cx 57 dX9_readCommand_47 (by decide) hF (fun hF => ?_) (fun hF => ?_)
      · refine r_aload_n cx dX9_readCommand_57 (lv_at hl 0 rfl) ?_
        refine gf9_21 cx hP dX9_readCommand_58 ?_
        refine r_ldc cx (k := 7) (by decide) (by decide) dX9_readCommand_61 ?_
        obtain ⟨v6, hc, hF⟩ := bnd_some hF
        refine r_callVi cx hP (As := [.ref (Γ.2.2.1 7)]) (w6_isWord l Γ ad A 7 (by decide) σ v6 hc) mw9_55 ⟨Nat.le_of_ble_eq_true rfl, Nat.le_of_ble_eq_true rfl⟩ (dXr (by decide)) rfl rfl rfl (Nat.le_of_ble_eq_true rfl) hl.1 ⟨Nat.zero_le _, Nat.zero_le _⟩ dX9_readCommand_63 (fun H locs hP => ?_)
        refine r_if_eq cx 76 dX9_readCommand_66 (by decide) hF (fun hF => ?_) (fun hF => ?_)
        · refine r_aload_n cx dX9_readCommand_76 (lv_at hl 0 rfl) ?_
          refine gf9_21 cx hP dX9_readCommand_77 ?_
          refine r_ldc cx (k := 8) (by decide) (by decide) dX9_readCommand_80 ?_
          obtain ⟨v7, hc, hF⟩ := bnd_some hF
          refine r_callVi cx hP (As := [.ref (Γ.2.2.1 8)]) (w6_isWord l Γ ad A 8 (by decide) σ v7 hc) mw9_55 ⟨Nat.le_of_ble_eq_true rfl, Nat.le_of_ble_eq_true rfl⟩ (dXr (by decide)) rfl rfl rfl (Nat.le_of_ble_eq_true rfl) hl.1 ⟨Nat.zero_le _, Nat.zero_le _⟩ dX9_readCommand_82 (fun H locs hP => ?_)
          refine r_if_eq cx 95 dX9_readCommand_85 (by decide) hF (fun hF => ?_) (fun hF => ?_)
          · refine r_aload_n cx dX9_readCommand_95 (lv_at hl 0 rfl) ?_
            refine gf9_21 cx hP dX9_readCommand_96 ?_
            refine r_ldc cx (k := 9) (by decide) (by decide) dX9_readCommand_99 ?_
            obtain ⟨v8, hc, hF⟩ := bnd_some hF
            refine r_callVi cx hP (As := [.ref (Γ.2.2.1 9)]) (w6_isWord l Γ ad A 9 (by decide) σ v8 hc) mw9_55 ⟨Nat.le_of_ble_eq_true rfl, Nat.le_of_ble_eq_true rfl⟩ (dXr (by decide)) rfl rfl rfl (Nat.le_of_ble_eq_true rfl) hl.1 ⟨Nat.zero_le _, Nat.zero_le _⟩ dX9_readCommand_101 (fun H locs hP => ?_)
            refine r_if_eq cx 114 dX9_readCommand_104 (by decide) hF (fun hF => ?_) (fun hF => ?_)
            · refine r_aload_n cx dX9_readCommand_114 (lv_at hl 0 rfl) ?_
              refine gf9_21 cx hP dX9_readCommand_115 ?_
              refine r_ldc cx (k := 10) (by decide) (by decide) dX9_readCommand_118 ?_
              obtain ⟨v9, hc, hF⟩ := bnd_some hF
              refine r_callVi cx hP (As := [.ref (Γ.2.2.1 10)]) (w6_isWord l Γ ad A 10 (by decide) σ v9 hc) mw9_55 ⟨Nat.le_of_ble_eq_true rfl, Nat.le_of_ble_eq_true rfl⟩ (dXr (by decide)) rfl rfl rfl (Nat.le_of_ble_eq_true rfl) hl.1 ⟨Nat.zero_le _, Nat.zero_le _⟩ dX9_readCommand_120 (fun H locs hP => ?_)
              refine r_if_eq cx 133 dX9_readCommand_123 (by decide) hF (fun hF => ?_) (fun hF => ?_)
              · refine r_aload_n cx dX9_readCommand_133 (lv_at hl 0 rfl) ?_
                refine gf9_21 cx hP dX9_readCommand_134 ?_
                refine r_ldc cx (k := 11) (by decide) (by decide) dX9_readCommand_137 ?_
                obtain ⟨v10, hc, hF⟩ := bnd_some hF
                refine r_callVi cx hP (As := [.ref (Γ.2.2.1 11)]) (w6_isWord l Γ ad A 11 (by decide) σ v10 hc) mw9_55 ⟨Nat.le_of_ble_eq_true rfl, Nat.le_of_ble_eq_true rfl⟩ (dXr (by decide)) rfl rfl rfl (Nat.le_of_ble_eq_true rfl) hl.1 ⟨Nat.zero_le _, Nat.zero_le _⟩ dX9_readCommand_139 (fun H locs hP => ?_)
                refine r_if_eq cx 152 dX9_readCommand_142 (by decide) hF (fun hF => ?_) (fun hF => ?_)
                · refine r_aload_n cx dX9_readCommand_152 (lv_at hl 0 rfl) ?_
                  refine gf9_21 cx hP dX9_readCommand_153 ?_
                  refine r_ldc cx (k := 12) (by decide) (by decide) dX9_readCommand_156 ?_
                  obtain ⟨v11, hc, hF⟩ := bnd_some hF
                  refine r_callVi cx hP (As := [.ref (Γ.2.2.1 12)]) (w6_isWord l Γ ad A 12 (by decide) σ v11 hc) mw9_55 ⟨Nat.le_of_ble_eq_true rfl, Nat.le_of_ble_eq_true rfl⟩ (dXr (by decide)) rfl rfl rfl (Nat.le_of_ble_eq_true rfl) hl.1 ⟨Nat.zero_le _, Nat.zero_le _⟩ dX9_readCommand_158 (fun H locs hP => ?_)
                  refine r_if_eq cx 171 dX9_readCommand_161 (by decide) hF (fun hF => ?_) (fun hF => ?_)
                  · refine r_aload_n cx dX9_readCommand_171 (lv_at hl 0 rfl) ?_
                    refine gf9_21 cx hP dX9_readCommand_172 ?_
                    refine r_ldc cx (k := 13) (by decide) (by decide) dX9_readCommand_175 ?_
                    obtain ⟨v12, hc, hF⟩ := bnd_some hF
                    refine r_callVi cx hP (As := [.ref (Γ.2.2.1 13)]) (w6_isWord l Γ ad A 13 (by decide) σ v12 hc) mw9_55 ⟨Nat.le_of_ble_eq_true rfl, Nat.le_of_ble_eq_true rfl⟩ (dXr (by decide)) rfl rfl rfl (Nat.le_of_ble_eq_true rfl) hl.1 ⟨Nat.zero_le _, Nat.zero_le _⟩ dX9_readCommand_177 (fun H locs hP => ?_)
                    refine r_if_eq cx 190 dX9_readCommand_180 (by decide) hF (fun hF => ?_) (fun hF => ?_)
                    · refine r_aload_n cx dX9_readCommand_190 (lv_at hl 0 rfl) ?_
                      refine r_iconst cx 1 dX9_readCommand_191 (by decide) ?_
                      obtain ⟨s13, hc, hF⟩ := bnd_some hF
                      refine r_callVv cx hP (As := [.int 1]) (w9_fail l Γ ad A 1 σ s13 hc) mw9_59 ⟨Nat.le_of_ble_eq_true rfl, Nat.le_of_ble_eq_true rfl⟩ (dXr (by decide)) rfl rfl rfl (Nat.le_of_ble_eq_true rfl) hl.1 ⟨Nat.zero_le _, Nat.zero_le _⟩ dX9_readCommand_192 (fun H locs hP => ?_)
                      exact b195 s13 _ _ _ hP (lv_sub hl [0] rfl) hF
                    · refine r_aload_n cx dX9_readCommand_183 (lv_at hl 0 rfl) ?_
                      obtain ⟨s14, hc, hF⟩ := bnd_some hF
                      refine r_callVv cx hP (As := []) (w9_readRefund l Γ ad A σ s14 hc) mw9_135 ⟨Nat.le_of_ble_eq_true rfl, Nat.le_of_ble_eq_true rfl⟩ (dXr (by decide)) rfl rfl rfl (Nat.le_of_ble_eq_true rfl) hl.1 ⟨Nat.zero_le _, Nat.zero_le _⟩ dX9_readCommand_184 (fun H locs hP => ?_)
                      refine r_goto cx 195 dX9_readCommand_187 (by decide) ?_
                      exact b195 s14 _ _ _ hP (lv_sub hl [0] rfl) hF
                  · refine r_aload_n cx dX9_readCommand_164 (lv_at hl 0 rfl) ?_
                    obtain ⟨s15, hc, hF⟩ := bnd_some hF
                    refine r_callVv cx hP (As := []) (w9_readPass l Γ ad A σ s15 hc) mw9_130 ⟨Nat.le_of_ble_eq_true rfl, Nat.le_of_ble_eq_true rfl⟩ (dXr (by decide)) rfl rfl rfl (Nat.le_of_ble_eq_true rfl) hl.1 ⟨Nat.zero_le _, Nat.zero_le _⟩ dX9_readCommand_165 (fun H locs hP => ?_)
                    refine r_goto cx 195 dX9_readCommand_168 (by decide) ?_
                    exact b195 s15 _ _ _ hP (lv_sub hl [0] rfl) hF
                · refine r_aload_n cx dX9_readCommand_145 (lv_at hl 0 rfl) ?_
                  obtain ⟨s16, hc, hF⟩ := bnd_some hF
                  refine r_callVv cx hP (As := []) (w9_readPeacocks l Γ ad A σ s16 hc) mw9_125 ⟨Nat.le_of_ble_eq_true rfl, Nat.le_of_ble_eq_true rfl⟩ (dXr (by decide)) rfl rfl rfl (Nat.le_of_ble_eq_true rfl) hl.1 ⟨Nat.zero_le _, Nat.zero_le _⟩ dX9_readCommand_146 (fun H locs hP => ?_)
                  refine r_goto cx 195 dX9_readCommand_149 (by decide) ?_
                  exact b195 s16 _ _ _ hP (lv_sub hl [0] rfl) hF
              · refine r_aload_n cx dX9_readCommand_126 (lv_at hl 0 rfl) ?_
                obtain ⟨s17, hc, hF⟩ := bnd_some hF
                refine r_callVv cx hP (As := []) (w9_readReplace l Γ ad A σ s17 hc) mw9_120 ⟨Nat.le_of_ble_eq_true rfl, Nat.le_of_ble_eq_true rfl⟩ (dXr (by decide)) rfl rfl rfl (Nat.le_of_ble_eq_true rfl) hl.1 ⟨Nat.zero_le _, Nat.zero_le _⟩ dX9_readCommand_127 (fun H locs hP => ?_)
                refine r_goto cx 195 dX9_readCommand_130 (by decide) ?_
                exact b195 s17 _ _ _ hP (lv_sub hl [0] rfl) hF
            · refine r_aload_n cx dX9_readCommand_107 (lv_at hl 0 rfl) ?_
              obtain ⟨s18, hc, hF⟩ := bnd_some hF
              refine r_callVv cx hP (As := []) (w9_readLost l Γ ad A σ s18 hc) mw9_115 ⟨Nat.le_of_ble_eq_true rfl, Nat.le_of_ble_eq_true rfl⟩ (dXr (by decide)) rfl rfl rfl (Nat.le_of_ble_eq_true rfl) hl.1 ⟨Nat.zero_le _, Nat.zero_le _⟩ dX9_readCommand_108 (fun H locs hP => ?_)
              refine r_goto cx 195 dX9_readCommand_111 (by decide) ?_
              exact b195 s18 _ _ _ hP (lv_sub hl [0] rfl) hF
          · refine r_aload_n cx dX9_readCommand_88 (lv_at hl 0 rfl) ?_
            obtain ⟨s19, hc, hF⟩ := bnd_some hF
            refine r_callVv cx hP (As := []) (w9_readPay l Γ ad A σ s19 hc) mw9_110 ⟨Nat.le_of_ble_eq_true rfl, Nat.le_of_ble_eq_true rfl⟩ (dXr (by decide)) rfl rfl rfl (Nat.le_of_ble_eq_true rfl) hl.1 ⟨Nat.zero_le _, Nat.zero_le _⟩ dX9_readCommand_89 (fun H locs hP => ?_)
            refine r_goto cx 195 dX9_readCommand_92 (by decide) ?_
            exact b195 s19 _ _ _ hP (lv_sub hl [0] rfl) hF
        · refine r_aload_n cx dX9_readCommand_69 (lv_at hl 0 rfl) ?_
          obtain ⟨s20, hc, hF⟩ := bnd_some hF
          refine r_callVv cx hP (As := []) (w9_readPluck l Γ ad A σ s20 hc) mw9_105 ⟨Nat.le_of_ble_eq_true rfl, Nat.le_of_ble_eq_true rfl⟩ (dXr (by decide)) rfl rfl rfl (Nat.le_of_ble_eq_true rfl) hl.1 ⟨Nat.zero_le _, Nat.zero_le _⟩ dX9_readCommand_70 (fun H locs hP => ?_)
          refine r_goto cx 195 dX9_readCommand_73 (by decide) ?_
          exact b195 s20 _ _ _ hP (lv_sub hl [0] rfl) hF
      · refine r_aload_n cx dX9_readCommand_50 (lv_at hl 0 rfl) ?_
        obtain ⟨s21, hc, hF⟩ := bnd_some hF
        refine r_callVv cx hP (As := []) (w9_readVisit l Γ ad A σ s21 hc) mw9_100 ⟨Nat.le_of_ble_eq_true rfl, Nat.le_of_ble_eq_true rfl⟩ (dXr (by decide)) rfl rfl rfl (Nat.le_of_ble_eq_true rfl) hl.1 ⟨Nat.zero_le _, Nat.zero_le _⟩ dX9_readCommand_51 (fun H locs hP => ?_)
        refine r_goto cx 195 dX9_readCommand_54 (by decide) ?_
        exact b195 s21 _ _ _ hP (lv_sub hl [0] rfl) hF
    · refine r_aload_n cx dX9_readCommand_31 (lv_at hl 0 rfl) ?_
      obtain ⟨s22, hc, hF⟩ := bnd_some hF
      refine r_callVv cx hP (As := []) (w9_readSell l Γ ad A σ s22 hc) mw9_95 ⟨Nat.le_of_ble_eq_true rfl, Nat.le_of_ble_eq_true rfl⟩ (dXr (by decide)) rfl rfl rfl (Nat.le_of_ble_eq_true rfl) hl.1 ⟨Nat.zero_le _, Nat.zero_le _⟩ dX9_readCommand_32 (fun H locs hP => ?_)
      refine r_goto cx 195 dX9_readCommand_35 (by decide) ?_
      exact b195 s22 _ _ _ hP (lv_sub hl [0] rfl) hF
  · refine r_aload_n cx dX9_readCommand_12 (lv_at hl 0 rfl) ?_
    obtain ⟨s23, hc, hF⟩ := bnd_some hF
    refine r_callVv cx hP (As := []) (w9_readBed l Γ ad A σ s23 hc) mw9_90 ⟨Nat.le_of_ble_eq_true rfl, Nat.le_of_ble_eq_true rfl⟩ (dXr (by decide)) rfl rfl rfl (Nat.le_of_ble_eq_true rfl) hl.1 ⟨Nat.zero_le _, Nat.zero_le _⟩ dX9_readCommand_13 (fun H locs hP => ?_)
    refine r_goto cx 195 dX9_readCommand_16 (by decide) ?_
    exact b195 s23 _ _ _ hP (lv_sub hl [0] rfl) hF
set_option maxHeartbeats 4000000 in
set_option maxRecDepth 100000 in
theorem w9_execute (l : Launch) (Γ : Wc) (ad : Nat → Nat → Nat) (A : Nat → Prop)  (σ : Sig) (σ1 : Sig) (hF : f9_execute  σ = some σ1) : MV l SX Γ ad A yX9_execute cX9_execute 2 8 172 [.ref (ad 0 3)] σ σ1 := by
  refine MV.of (by decide) (Nat.le_of_ble_eq_true rfl) ?_
  intro p e s m args below meth c ls cx hr hk hP hl
  have hl : lv_has ls 2 [(0, .ref (ad 0 3))] := hl
  rw [f9_execute] at hF
  generalize hH0 : s.heap = H0 at hP ⊢
  generalize ([] : List Loc) = locs0 at hP ⊢
  clear hH0
  have b30 : ∀ (fu : Nat) (x1 : Int32) (σ : Sig) (H : Heap) (locs : List Loc) (ls : Array Slot), PS SX Γ ad A s σ H locs → lv_has ls 2 [(0, .ref (ad 0 3)), (1, .int x1)] → f9_execute_b30 fu x1 σ = some σ1 → W p l e (rmz 8 172) s m args below meth c H locs 0 0 (QV SX Γ ad A below args s σ1) (F0 m 30 ls []) := by
    intro fu
    induction fu with
    | zero => intro x1 σ H locs ls hP hl hF; exact nofu hF
    | succ fu ih =>
      intro x1 σ H locs ls hP hl hF
      rw [f9_execute_b30] at hF
      refine r_iload_n cx dX9_execute_30 (lv_at hl 1 rfl) ?_
      refine r_sipush cx 500 dX9_execute_31 (by decide) ?_
      refine r_icmp_ge cx 54 dX9_execute_34 (by decide) hF (fun hF => ?_) (fun hF => ?_)
      · exact r_vret cx hP hr hk dX9_execute_54 hF
      · refine r_aload_n cx dX9_execute_37 (lv_at hl 0 rfl) ?_
        obtain ⟨v1, hc, hF⟩ := bnd_some hF
        refine r_callVi cx hP (As := []) (w9_goesOn l Γ ad A σ v1 hc) mw9_41 ⟨Nat.le_of_ble_eq_true rfl, Nat.le_of_ble_eq_true rfl⟩ (dXr (by decide)) rfl rfl rfl (Nat.le_of_ble_eq_true rfl) hl.1 ⟨Nat.zero_le _, Nat.zero_le _⟩ dX9_execute_38 (fun H locs hP => ?_)
        refine r_if_eq cx 54 dX9_execute_41 (by decide) hF (fun hF => ?_) (fun hF => ?_)
        · exact r_vret cx hP hr hk dX9_execute_54 hF
        · refine r_aload_n cx dX9_execute_44 (lv_at hl 0 rfl) ?_
          obtain ⟨s2, hc, hF⟩ := bnd_some hF
          refine r_callVv cx hP (As := []) (w9_readCommand l Γ ad A σ s2 hc) mw9_45 ⟨Nat.le_of_ble_eq_true rfl, Nat.le_of_ble_eq_true rfl⟩ (dXr (by decide)) rfl rfl rfl (Nat.le_of_ble_eq_true rfl) hl.1 ⟨Nat.zero_le _, Nat.zero_le _⟩ dX9_execute_45 (fun H locs hP => ?_)
          refine r_iinc cx (k := 1) (w := 1) (fun v3 => [(1, .int v3), (0, .ref (ad 0 3))]) dX9_execute_48 hl rfl (by decide) (by decide) hF (fun _ => rfl) (fun v3 ls hF hl => ?_)
          refine r_goto cx 30 dX9_execute_51 (by decide) ?_
          exact ih v3 s2 _ _ _ hP (lv_sub hl [1, 0] rfl) hF
  refine r_aload_n cx dX9_execute_0 (lv_at hl 0 rfl) ?_
  refine gf9_12 cx hP dX9_execute_1 ?_
  obtain ⟨s4, hc, hF⟩ := bnd_some hF
  refine r_callVv cx hP (As := []) (w4_reset l Γ ad A 10 (by decide : 10 < 11) σ s4 hc) mw9_32 ⟨Nat.le_of_ble_eq_true rfl, Nat.le_of_ble_eq_true rfl⟩ (dXg (by decide : 10 < 11) (by decide)) rfl rfl rfl (Nat.le_of_ble_eq_true rfl) hl.1 ⟨Nat.zero_le _, Nat.zero_le _⟩ dX9_execute_4 (fun H locs hP => ?_)
  refine r_aload_n cx dX9_execute_7 (lv_at hl 0 rfl) ?_
  refine r_iconst cx 0 dX9_execute_8 (by decide) ?_
  refine pf9_25 cx hP dX9_execute_9 hF (fun s5 H locs hP hF => ?_)
  refine r_aload_n cx dX9_execute_12 (lv_at hl 0 rfl) ?_
  refine r_iconst cx (-1) dX9_execute_13 (by decide) ?_
  refine pf9_29 cx hP dX9_execute_14 hF (fun s6 H locs hP hF => ?_)
  refine r_aload_n cx dX9_execute_17 (lv_at hl 0 rfl) ?_
  refine gf9_21 cx hP dX9_execute_18 ?_
  obtain ⟨s7, hc, hF⟩ := bnd_some hF
  refine r_callVv cx hP (As := []) (w6_readFirst l Γ ad A s6 s7 hc) mw9_35 ⟨Nat.le_of_ble_eq_true rfl, Nat.le_of_ble_eq_true rfl⟩ (dXr (by decide)) rfl rfl rfl (Nat.le_of_ble_eq_true rfl) hl.1 ⟨Nat.zero_le _, Nat.zero_le _⟩ dX9_execute_21 (fun H locs hP => ?_)
  refine r_aload_n cx dX9_execute_24 (lv_at hl 0 rfl) ?_
  obtain ⟨s8, hc, hF⟩ := bnd_some hF
  refine r_callVv cx hP (As := []) (w9_readGarden l Γ ad A s7 s8 hc) mw9_38 ⟨Nat.le_of_ble_eq_true rfl, Nat.le_of_ble_eq_true rfl⟩ (dXr (by decide)) rfl rfl rfl (Nat.le_of_ble_eq_true rfl) hl.1 ⟨Nat.zero_le _, Nat.zero_le _⟩ dX9_execute_25 (fun H locs hP => ?_)
  refine r_iconst cx 0 dX9_execute_28 (by decide) ?_
  refine r_istore_n cx [(1, .int 0), (0, .ref (ad 0 3))] dX9_execute_29 hl (by decide) rfl (fun ls hl => ?_)
  exact b30 FU 0 s8 _ _ _ hP (lv_sub hl [1, 0] rfl) hF
set_option maxHeartbeats 4000000 in
set_option maxRecDepth 100000 in
theorem w3_copyFrom (l : Launch) (Γ : Wc) (ad : Nat → Nat → Nat) (A : Nat → Prop) (n : Nat) (hn : n < 11) (n1 : Nat) (hn1 : n1 < 11) (σ : Sig) (σ1 : Sig) (hF : f3_copyFrom n n1 σ = some σ1) : MV l SX Γ ad A yX3_copyFrom cX3_copyFrom 2 1 22 [.ref (ad (n + 1) 1), .ref (ad (n1 + 1) 1)] σ σ1 := by
  refine MV.of (by decide) (Nat.le_of_ble_eq_true rfl) ?_
  intro p e s m args below meth c ls cx hr hk hP hl
  have hl : lv_has ls 2 [(0, .ref (ad (n + 1) 1)), (1, .ref (ad (n1 + 1) 1))] := hl
  rw [f3_copyFrom] at hF
  refine r_aload_n cx dX3_copyFrom_0 (lv_at hl 0 rfl) ?_
  refine r_aload_n cx dX3_copyFrom_1 (lv_at hl 1 rfl) ?_
  refine gf3_9 cx hP hn1 dX3_copyFrom_2 hF (fun v1 hF => ?_)
  refine pf3_9 cx hP hn dX3_copyFrom_5 hF (fun s2 H locs hP hF => ?_)
  refine r_aload_n cx dX3_copyFrom_8 (lv_at hl 0 rfl) ?_
  refine r_aload_n cx dX3_copyFrom_9 (lv_at hl 1 rfl) ?_
  refine gf3_19 cx hP hn1 dX3_copyFrom_10 hF (fun v3 hF => ?_)
  refine r_aload_n cx dX3_copyFrom_13 (lv_at hl 1 rfl) ?_
  refine gf3_22 cx hP hn1 dX3_copyFrom_14 hF (fun v4 hF => ?_)
  obtain ⟨s5, hc, hF⟩ := bnd_some hF
  refine r_callVv cx hP (As := [.int v3, .int v4]) (w3_letPeacocksWalk l Γ ad A n hn v3 v4 s2 s5 hc) mw3_15 ⟨Nat.le_of_ble_eq_true rfl, Nat.le_of_ble_eq_true rfl⟩ (dXg hn (by decide)) rfl rfl rfl (Nat.le_of_ble_eq_true rfl) hl.1 ⟨Nat.zero_le _, Nat.zero_le _⟩ dX3_copyFrom_17 (fun H locs hP => ?_)
  exact r_vret cx hP hr hk dX3_copyFrom_20 hF
set_option maxHeartbeats 4000000 in
set_option maxRecDepth 100000 in
theorem w10_copyFrom (l : Launch) (Γ : Wc) (ad : Nat → Nat → Nat) (A : Nat → Prop) (n : Nat) (hn : n < 11) (n1 : Nat) (hn1 : n1 < 11) (σ : Sig) (σ1 : Sig) (hF : f10_copyFrom n n1 σ = some σ1) : MV l SX Γ ad A yX10_copyFrom cX10_copyFrom 2 1 24 [.ref (ad (n + 1) 2), .ref (ad (n1 + 1) 2)] σ σ1 := by
  refine MV.of (by decide) (Nat.le_of_ble_eq_true rfl) ?_
  intro p e s m args below meth c ls cx hr hk hP hl
  have hl : lv_has ls 2 [(0, .ref (ad (n + 1) 2)), (1, .ref (ad (n1 + 1) 2))] := hl
  rw [f10_copyFrom] at hF
  refine r_aload_n cx dX10_copyFrom_0 (lv_at hl 0 rfl) ?_
  refine r_aload_n cx dX10_copyFrom_1 (lv_at hl 1 rfl) ?_
  refine gf10_15 cx hP hn1 dX10_copyFrom_2 hF (fun v1 hF => ?_)
  refine pf10_15 cx hP hn dX10_copyFrom_5 hF (fun s2 H locs hP hF => ?_)
  refine r_aload_n cx dX10_copyFrom_8 (lv_at hl 0 rfl) ?_
  refine r_aload_n cx dX10_copyFrom_9 (lv_at hl 1 rfl) ?_
  refine gf10_19 cx hP hn1 dX10_copyFrom_10 hF (fun v3 hF => ?_)
  refine pf10_19 cx hP hn dX10_copyFrom_13 hF (fun s4 H locs hP hF => ?_)
  refine r_aload_n cx dX10_copyFrom_16 (lv_at hl 1 rfl) ?_
  refine gf10_9 cx hP hn1 dX10_copyFrom_17 ?_
  refine r_iconst cx 0 dX10_copyFrom_20 (by decide) ?_
  refine r_aload_n cx dX10_copyFrom_21 (lv_at hl 0 rfl) ?_
  refine gf10_9 cx hP hn dX10_copyFrom_22 ?_
  refine r_iconst cx 0 dX10_copyFrom_25 (by decide) ?_
  refine r_aload_n cx dX10_copyFrom_26 (lv_at hl 0 rfl) ?_
  refine gf10_15 cx hP hn dX10_copyFrom_27 hF (fun v5 hF => ?_)
  refine r_acopy cx hP mw10_22 (dXg hn1 (by decide)) (dXg hn (by decide)) rfl (fun _ => rfl) ⟨Nat.le_of_ble_eq_true rfl, Nat.le_of_ble_eq_true rfl⟩ hl.1 dX10_copyFrom_30 hF (fun s6 H locs hP hF => ?_)
  exact r_vret cx hP hr hk dX10_copyFrom_33 hF
set_option maxHeartbeats 4000000 in
set_option maxRecDepth 100000 in
theorem w0_copyFrom (l : Launch) (Γ : Wc) (ad : Nat → Nat → Nat) (A : Nat → Prop) (n : Nat) (hn : n < 11) (n1 : Nat) (hn1 : n1 < 11) (σ : Sig) (σ1 : Sig) (hF : f0_copyFrom n n1 σ = some σ1) : MV l SX Γ ad A yX0_copyFrom cX0_copyFrom 2 1 24 [.ref (ad (n + 1) 3), .ref (ad (n1 + 1) 3)] σ σ1 := by
  refine MV.of (by decide) (Nat.le_of_ble_eq_true rfl) ?_
  intro p e s m args below meth c ls cx hr hk hP hl
  have hl : lv_has ls 2 [(0, .ref (ad (n + 1) 3)), (1, .ref (ad (n1 + 1) 3))] := hl
  rw [f0_copyFrom] at hF
  refine r_aload_n cx dX0_copyFrom_0 (lv_at hl 0 rfl) ?_
  refine r_aload_n cx dX0_copyFrom_1 (lv_at hl 1 rfl) ?_
  refine gf0_33 cx hP hn1 dX0_copyFrom_2 hF (fun v1 hF => ?_)
  refine pf0_33 cx hP hn dX0_copyFrom_5 hF (fun s2 H locs hP hF => ?_)
  refine r_aload_n cx dX0_copyFrom_8 (lv_at hl 1 rfl) ?_
  refine gf0_9 cx hP hn1 dX0_copyFrom_9 ?_
  refine r_iconst cx 0 dX0_copyFrom_12 (by decide) ?_
  refine r_aload_n cx dX0_copyFrom_13 (lv_at hl 0 rfl) ?_
  refine gf0_9 cx hP hn dX0_copyFrom_14 ?_
  refine r_iconst cx 0 dX0_copyFrom_17 (by decide) ?_
  refine r_aload_n cx dX0_copyFrom_18 (lv_at hl 0 rfl) ?_
  refine gf0_33 cx hP hn dX0_copyFrom_19 hF (fun v3 hF => ?_)
  refine r_acopy cx hP mw0_37 (dXg hn1 (by decide)) (dXg hn (by decide)) rfl (fun _ => rfl) ⟨Nat.le_of_ble_eq_true rfl, Nat.le_of_ble_eq_true rfl⟩ hl.1 dX0_copyFrom_22 hF (fun s4 H locs hP hF => ?_)
  refine r_aload_n cx dX0_copyFrom_25 (lv_at hl 1 rfl) ?_
  refine gf0_15 cx hP hn1 dX0_copyFrom_26 ?_
  refine r_iconst cx 0 dX0_copyFrom_29 (by decide) ?_
  refine r_aload_n cx dX0_copyFrom_30 (lv_at hl 0 rfl) ?_
  refine gf0_15 cx hP hn dX0_copyFrom_31 ?_
  refine r_iconst cx 0 dX0_copyFrom_34 (by decide) ?_
  refine r_aload_n cx dX0_copyFrom_35 (lv_at hl 0 rfl) ?_
  refine gf0_33 cx hP hn dX0_copyFrom_36 hF (fun v5 hF => ?_)
  refine r_acopy cx hP mw0_37 (dXg hn1 (by decide)) (dXg hn (by decide)) rfl (fun _ => rfl) ⟨Nat.le_of_ble_eq_true rfl, Nat.le_of_ble_eq_true rfl⟩ hl.1 dX0_copyFrom_39 hF (fun s6 H locs hP hF => ?_)
  refine r_aload_n cx dX0_copyFrom_42 (lv_at hl 1 rfl) ?_
  refine gf0_18 cx hP hn1 dX0_copyFrom_43 ?_
  refine r_iconst cx 0 dX0_copyFrom_46 (by decide) ?_
  refine r_aload_n cx dX0_copyFrom_47 (lv_at hl 0 rfl) ?_
  refine gf0_18 cx hP hn dX0_copyFrom_48 ?_
  refine r_iconst cx 0 dX0_copyFrom_51 (by decide) ?_
  refine r_aload_n cx dX0_copyFrom_52 (lv_at hl 0 rfl) ?_
  refine gf0_33 cx hP hn dX0_copyFrom_53 hF (fun v7 hF => ?_)
  refine r_acopy cx hP mw0_37 (dXg hn1 (by decide)) (dXg hn (by decide)) rfl (fun _ => rfl) ⟨Nat.le_of_ble_eq_true rfl, Nat.le_of_ble_eq_true rfl⟩ hl.1 dX0_copyFrom_56 hF (fun s8 H locs hP hF => ?_)
  refine r_aload_n cx dX0_copyFrom_59 (lv_at hl 1 rfl) ?_
  refine gf0_21 cx hP hn1 dX0_copyFrom_60 ?_
  refine r_iconst cx 0 dX0_copyFrom_63 (by decide) ?_
  refine r_aload_n cx dX0_copyFrom_64 (lv_at hl 0 rfl) ?_
  refine gf0_21 cx hP hn dX0_copyFrom_65 ?_
  refine r_iconst cx 0 dX0_copyFrom_68 (by decide) ?_
  refine r_aload_n cx dX0_copyFrom_69 (lv_at hl 0 rfl) ?_
  refine gf0_33 cx hP hn dX0_copyFrom_70 hF (fun v9 hF => ?_)
  refine r_acopy cx hP mw0_37 (dXg hn1 (by decide)) (dXg hn (by decide)) rfl (fun _ => rfl) ⟨Nat.le_of_ble_eq_true rfl, Nat.le_of_ble_eq_true rfl⟩ hl.1 dX0_copyFrom_73 hF (fun s10 H locs hP hF => ?_)
  refine r_aload_n cx dX0_copyFrom_76 (lv_at hl 1 rfl) ?_
  refine gf0_24 cx hP hn1 dX0_copyFrom_77 ?_
  refine r_iconst cx 0 dX0_copyFrom_80 (by decide) ?_
  refine r_aload_n cx dX0_copyFrom_81 (lv_at hl 0 rfl) ?_
  refine gf0_24 cx hP hn dX0_copyFrom_82 ?_
  refine r_iconst cx 0 dX0_copyFrom_85 (by decide) ?_
  refine r_aload_n cx dX0_copyFrom_86 (lv_at hl 0 rfl) ?_
  refine gf0_33 cx hP hn dX0_copyFrom_87 hF (fun v11 hF => ?_)
  refine r_acopy cx hP mw0_37 (dXg hn1 (by decide)) (dXg hn (by decide)) rfl (fun _ => rfl) ⟨Nat.le_of_ble_eq_true rfl, Nat.le_of_ble_eq_true rfl⟩ hl.1 dX0_copyFrom_90 hF (fun s12 H locs hP hF => ?_)
  refine r_aload_n cx dX0_copyFrom_93 (lv_at hl 1 rfl) ?_
  refine gf0_27 cx hP hn1 dX0_copyFrom_94 ?_
  refine r_iconst cx 0 dX0_copyFrom_97 (by decide) ?_
  refine r_aload_n cx dX0_copyFrom_98 (lv_at hl 0 rfl) ?_
  refine gf0_27 cx hP hn dX0_copyFrom_99 ?_
  refine r_iconst cx 0 dX0_copyFrom_102 (by decide) ?_
  refine r_aload_n cx dX0_copyFrom_103 (lv_at hl 0 rfl) ?_
  refine gf0_33 cx hP hn dX0_copyFrom_104 hF (fun v13 hF => ?_)
  refine r_acopy cx hP mw0_37 (dXg hn1 (by decide)) (dXg hn (by decide)) rfl (fun _ => rfl) ⟨Nat.le_of_ble_eq_true rfl, Nat.le_of_ble_eq_true rfl⟩ hl.1 dX0_copyFrom_107 hF (fun s14 H locs hP hF => ?_)
  refine r_aload_n cx dX0_copyFrom_110 (lv_at hl 1 rfl) ?_
  refine gf0_30 cx hP hn1 dX0_copyFrom_111 ?_
  refine r_iconst cx 0 dX0_copyFrom_114 (by decide) ?_
  refine r_aload_n cx dX0_copyFrom_115 (lv_at hl 0 rfl) ?_
  refine gf0_30 cx hP hn dX0_copyFrom_116 ?_
  refine r_iconst cx 0 dX0_copyFrom_119 (by decide) ?_
  refine r_aload_n cx dX0_copyFrom_120 (lv_at hl 0 rfl) ?_
  refine gf0_33 cx hP hn dX0_copyFrom_121 hF (fun v15 hF => ?_)
  refine r_acopy cx hP mw0_37 (dXg hn1 (by decide)) (dXg hn (by decide)) rfl (fun _ => rfl) ⟨Nat.le_of_ble_eq_true rfl, Nat.le_of_ble_eq_true rfl⟩ hl.1 dX0_copyFrom_124 hF (fun s16 H locs hP hF => ?_)
  exact r_vret cx hP hr hk dX0_copyFrom_127 hF
set_option maxHeartbeats 4000000 in
set_option maxRecDepth 100000 in
theorem w7_copyFrom (l : Launch) (Γ : Wc) (ad : Nat → Nat → Nat) (A : Nat → Prop) (n : Nat) (hn : n < 11) (n1 : Nat) (hn1 : n1 < 11) (σ : Sig) (σ1 : Sig) (hF : f7_copyFrom n n1 σ = some σ1) : MV l SX Γ ad A yX7_copyFrom cX7_copyFrom 3 1 24 [.ref (ad (n + 1) 4), .ref (ad (n1 + 1) 4)] σ σ1 := by
  refine MV.of (by decide) (Nat.le_of_ble_eq_true rfl) ?_
  intro p e s m args below meth c ls cx hr hk hP hl
  have hl : lv_has ls 3 [(0, .ref (ad (n + 1) 4)), (1, .ref (ad (n1 + 1) 4))] := hl
  rw [f7_copyFrom] at hF
  generalize hH0 : s.heap = H0 at hP ⊢
  generalize ([] : List Loc) = locs0 at hP ⊢
  clear hH0
  have b197 : ∀ (fu : Nat) (x2 : Int32) (σ : Sig) (H : Heap) (locs : List Loc) (ls : Array Slot), PS SX Γ ad A s σ H locs → lv_has ls 3 [(0, .ref (ad (n + 1) 4)), (1, .ref (ad (n1 + 1) 4)), (2, .int x2)] → f7_copyFrom_b197 n n1 fu x2 σ = some σ1 → W p l e (rmz 1 24) s m args below meth c H locs 0 0 (QV SX Γ ad A below args s σ1) (F0 m 197 ls []) := by
    intro fu
    induction fu with
    | zero => intro x2 σ H locs ls hP hl hF; exact nofu hF
    | succ fu ih =>
      intro x2 σ H locs ls hP hl hF
      rw [f7_copyFrom_b197] at hF
      refine r_iload_n cx dX7_copyFrom_197 (lv_at hl 2 rfl) ?_
      refine r_aload_n cx dX7_copyFrom_198 (lv_at hl 0 rfl) ?_
      refine gf7_49 cx hP hn dX7_copyFrom_199 hF (fun v1 hF => ?_)
      refine r_icmp_ge cx 223 dX7_copyFrom_202 (by decide) hF (fun hF => ?_) (fun hF => ?_)
      · exact r_vret cx hP hr hk dX7_copyFrom_223 hF
      · refine r_aload_n cx dX7_copyFrom_205 (lv_at hl 0 rfl) ?_
        refine gf7_30 cx hP hn dX7_copyFrom_206 ?_
        refine r_iload_n cx dX7_copyFrom_209 (lv_at hl 2 rfl) ?_
        refine r_aload_n cx dX7_copyFrom_210 (lv_at hl 1 rfl) ?_
        refine gf7_30 cx hP hn1 dX7_copyFrom_211 ?_
        refine r_iload_n cx dX7_copyFrom_214 (lv_at hl 2 rfl) ?_
        refine r_zald cx hP (dXg hn1 (by decide)) rfl dX7_copyFrom_215 hF (fun v2 hF => ?_)
        refine r_zast cx hP (dXg hn (by decide)) (fun _ => rfl) dX7_copyFrom_216 hF (fun s3 H locs hP hF => ?_)
        refine r_iinc cx (k := 2) (w := 1) (fun v4 => [(2, .int v4), (0, .ref (ad (n + 1) 4)), (1, .ref (ad (n1 + 1) 4))]) dX7_copyFrom_217 hl rfl (by decide) (by decide) hF (fun _ => rfl) (fun v4 ls hF hl => ?_)
        refine r_goto cx 197 dX7_copyFrom_220 (by decide) ?_
        exact ih v4 s3 _ _ _ hP (lv_sub hl [1, 2, 0] rfl) hF
  refine r_aload_n cx dX7_copyFrom_0 (lv_at hl 0 rfl) ?_
  refine r_aload_n cx dX7_copyFrom_1 (lv_at hl 1 rfl) ?_
  refine gf7_49 cx hP hn1 dX7_copyFrom_2 hF (fun v5 hF => ?_)
  refine pf7_49 cx hP hn dX7_copyFrom_5 hF (fun s6 H locs hP hF => ?_)
  refine r_aload_n cx dX7_copyFrom_8 (lv_at hl 1 rfl) ?_
  refine gf7_9 cx hP hn1 dX7_copyFrom_9 ?_
  refine r_iconst cx 0 dX7_copyFrom_12 (by decide) ?_
  refine r_aload_n cx dX7_copyFrom_13 (lv_at hl 0 rfl) ?_
  refine gf7_9 cx hP hn dX7_copyFrom_14 ?_
  refine r_iconst cx 0 dX7_copyFrom_17 (by decide) ?_
  refine r_aload_n cx dX7_copyFrom_18 (lv_at hl 0 rfl) ?_
  refine gf7_49 cx hP hn dX7_copyFrom_19 hF (fun v7 hF => ?_)
  refine r_acopy cx hP mw7_53 (dXg hn1 (by decide)) (dXg hn (by decide)) rfl (fun _ => rfl) ⟨Nat.le_of_ble_eq_true rfl, Nat.le_of_ble_eq_true rfl⟩ hl.1 dX7_copyFrom_22 hF (fun s8 H locs hP hF => ?_)
  refine r_aload_n cx dX7_copyFrom_25 (lv_at hl 1 rfl) ?_
  refine gf7_15 cx hP hn1 dX7_copyFrom_26 ?_
  refine r_iconst cx 0 dX7_copyFrom_29 (by decide) ?_
  refine r_aload_n cx dX7_copyFrom_30 (lv_at hl 0 rfl) ?_
  refine gf7_15 cx hP hn dX7_copyFrom_31 ?_
  refine r_iconst cx 0 dX7_copyFrom_34 (by decide) ?_
  refine r_aload_n cx dX7_copyFrom_35 (lv_at hl 0 rfl) ?_
  refine gf7_49 cx hP hn dX7_copyFrom_36 hF (fun v9 hF => ?_)
  refine r_acopy cx hP mw7_53 (dXg hn1 (by decide)) (dXg hn (by decide)) rfl (fun _ => rfl) ⟨Nat.le_of_ble_eq_true rfl, Nat.le_of_ble_eq_true rfl⟩ hl.1 dX7_copyFrom_39 hF (fun s10 H locs hP hF => ?_)
  refine r_aload_n cx dX7_copyFrom_42 (lv_at hl 1 rfl) ?_
  refine gf7_18 cx hP hn1 dX7_copyFrom_43 ?_
  refine r_iconst cx 0 dX7_copyFrom_46 (by decide) ?_
  refine r_aload_n cx dX7_copyFrom_47 (lv_at hl 0 rfl) ?_
  refine gf7_18 cx hP hn dX7_copyFrom_48 ?_
  refine r_iconst cx 0 dX7_copyFrom_51 (by decide) ?_
  refine r_aload_n cx dX7_copyFrom_52 (lv_at hl 0 rfl) ?_
  refine gf7_49 cx hP hn dX7_copyFrom_53 hF (fun v11 hF => ?_)
  refine r_acopy cx hP mw7_53 (dXg hn1 (by decide)) (dXg hn (by decide)) rfl (fun _ => rfl) ⟨Nat.le_of_ble_eq_true rfl, Nat.le_of_ble_eq_true rfl⟩ hl.1 dX7_copyFrom_56 hF (fun s12 H locs hP hF => ?_)
  refine r_aload_n cx dX7_copyFrom_59 (lv_at hl 1 rfl) ?_
  refine gf7_21 cx hP hn1 dX7_copyFrom_60 ?_
  refine r_iconst cx 0 dX7_copyFrom_63 (by decide) ?_
  refine r_aload_n cx dX7_copyFrom_64 (lv_at hl 0 rfl) ?_
  refine gf7_21 cx hP hn dX7_copyFrom_65 ?_
  refine r_iconst cx 0 dX7_copyFrom_68 (by decide) ?_
  refine r_aload_n cx dX7_copyFrom_69 (lv_at hl 0 rfl) ?_
  refine gf7_49 cx hP hn dX7_copyFrom_70 hF (fun v13 hF => ?_)
  refine r_acopy cx hP mw7_53 (dXg hn1 (by decide)) (dXg hn (by decide)) rfl (fun _ => rfl) ⟨Nat.le_of_ble_eq_true rfl, Nat.le_of_ble_eq_true rfl⟩ hl.1 dX7_copyFrom_73 hF (fun s14 H locs hP hF => ?_)
  refine r_aload_n cx dX7_copyFrom_76 (lv_at hl 1 rfl) ?_
  refine gf7_24 cx hP hn1 dX7_copyFrom_77 ?_
  refine r_iconst cx 0 dX7_copyFrom_80 (by decide) ?_
  refine r_aload_n cx dX7_copyFrom_81 (lv_at hl 0 rfl) ?_
  refine gf7_24 cx hP hn dX7_copyFrom_82 ?_
  refine r_iconst cx 0 dX7_copyFrom_85 (by decide) ?_
  refine r_aload_n cx dX7_copyFrom_86 (lv_at hl 0 rfl) ?_
  refine gf7_49 cx hP hn dX7_copyFrom_87 hF (fun v15 hF => ?_)
  refine r_acopy cx hP mw7_53 (dXg hn1 (by decide)) (dXg hn (by decide)) rfl (fun _ => rfl) ⟨Nat.le_of_ble_eq_true rfl, Nat.le_of_ble_eq_true rfl⟩ hl.1 dX7_copyFrom_90 hF (fun s16 H locs hP hF => ?_)
  refine r_aload_n cx dX7_copyFrom_93 (lv_at hl 1 rfl) ?_
  refine gf7_27 cx hP hn1 dX7_copyFrom_94 ?_
  refine r_iconst cx 0 dX7_copyFrom_97 (by decide) ?_
  refine r_aload_n cx dX7_copyFrom_98 (lv_at hl 0 rfl) ?_
  refine gf7_27 cx hP hn dX7_copyFrom_99 ?_
  refine r_iconst cx 0 dX7_copyFrom_102 (by decide) ?_
  refine r_aload_n cx dX7_copyFrom_103 (lv_at hl 0 rfl) ?_
  refine gf7_49 cx hP hn dX7_copyFrom_104 hF (fun v17 hF => ?_)
  refine r_acopy cx hP mw7_53 (dXg hn1 (by decide)) (dXg hn (by decide)) rfl (fun _ => rfl) ⟨Nat.le_of_ble_eq_true rfl, Nat.le_of_ble_eq_true rfl⟩ hl.1 dX7_copyFrom_107 hF (fun s18 H locs hP hF => ?_)
  refine r_aload_n cx dX7_copyFrom_110 (lv_at hl 1 rfl) ?_
  refine gf7_34 cx hP hn1 dX7_copyFrom_111 ?_
  refine r_iconst cx 0 dX7_copyFrom_114 (by decide) ?_
  refine r_aload_n cx dX7_copyFrom_115 (lv_at hl 0 rfl) ?_
  refine gf7_34 cx hP hn dX7_copyFrom_116 ?_
  refine r_iconst cx 0 dX7_copyFrom_119 (by decide) ?_
  refine r_aload_n cx dX7_copyFrom_120 (lv_at hl 0 rfl) ?_
  refine gf7_49 cx hP hn dX7_copyFrom_121 hF (fun v19 hF => ?_)
  refine r_acopy cx hP mw7_53 (dXg hn1 (by decide)) (dXg hn (by decide)) rfl (fun _ => rfl) ⟨Nat.le_of_ble_eq_true rfl, Nat.le_of_ble_eq_true rfl⟩ hl.1 dX7_copyFrom_124 hF (fun s20 H locs hP hF => ?_)
  refine r_aload_n cx dX7_copyFrom_127 (lv_at hl 1 rfl) ?_
  refine gf7_37 cx hP hn1 dX7_copyFrom_128 ?_
  refine r_iconst cx 0 dX7_copyFrom_131 (by decide) ?_
  refine r_aload_n cx dX7_copyFrom_132 (lv_at hl 0 rfl) ?_
  refine gf7_37 cx hP hn dX7_copyFrom_133 ?_
  refine r_iconst cx 0 dX7_copyFrom_136 (by decide) ?_
  refine r_aload_n cx dX7_copyFrom_137 (lv_at hl 0 rfl) ?_
  refine gf7_49 cx hP hn dX7_copyFrom_138 hF (fun v21 hF => ?_)
  refine r_acopy cx hP mw7_53 (dXg hn1 (by decide)) (dXg hn (by decide)) rfl (fun _ => rfl) ⟨Nat.le_of_ble_eq_true rfl, Nat.le_of_ble_eq_true rfl⟩ hl.1 dX7_copyFrom_141 hF (fun s22 H locs hP hF => ?_)
  refine r_aload_n cx dX7_copyFrom_144 (lv_at hl 1 rfl) ?_
  refine gf7_40 cx hP hn1 dX7_copyFrom_145 ?_
  refine r_iconst cx 0 dX7_copyFrom_148 (by decide) ?_
  refine r_aload_n cx dX7_copyFrom_149 (lv_at hl 0 rfl) ?_
  refine gf7_40 cx hP hn dX7_copyFrom_150 ?_
  refine r_iconst cx 0 dX7_copyFrom_153 (by decide) ?_
  refine r_aload_n cx dX7_copyFrom_154 (lv_at hl 0 rfl) ?_
  refine gf7_49 cx hP hn dX7_copyFrom_155 hF (fun v23 hF => ?_)
  refine r_acopy cx hP mw7_53 (dXg hn1 (by decide)) (dXg hn (by decide)) rfl (fun _ => rfl) ⟨Nat.le_of_ble_eq_true rfl, Nat.le_of_ble_eq_true rfl⟩ hl.1 dX7_copyFrom_158 hF (fun s24 H locs hP hF => ?_)
  refine r_aload_n cx dX7_copyFrom_161 (lv_at hl 1 rfl) ?_
  refine gf7_43 cx hP hn1 dX7_copyFrom_162 ?_
  refine r_iconst cx 0 dX7_copyFrom_165 (by decide) ?_
  refine r_aload_n cx dX7_copyFrom_166 (lv_at hl 0 rfl) ?_
  refine gf7_43 cx hP hn dX7_copyFrom_167 ?_
  refine r_iconst cx 0 dX7_copyFrom_170 (by decide) ?_
  refine r_aload_n cx dX7_copyFrom_171 (lv_at hl 0 rfl) ?_
  refine gf7_49 cx hP hn dX7_copyFrom_172 hF (fun v25 hF => ?_)
  refine r_acopy cx hP mw7_53 (dXg hn1 (by decide)) (dXg hn (by decide)) rfl (fun _ => rfl) ⟨Nat.le_of_ble_eq_true rfl, Nat.le_of_ble_eq_true rfl⟩ hl.1 dX7_copyFrom_175 hF (fun s26 H locs hP hF => ?_)
  refine r_aload_n cx dX7_copyFrom_178 (lv_at hl 1 rfl) ?_
  refine gf7_46 cx hP hn1 dX7_copyFrom_179 ?_
  refine r_iconst cx 0 dX7_copyFrom_182 (by decide) ?_
  refine r_aload_n cx dX7_copyFrom_183 (lv_at hl 0 rfl) ?_
  refine gf7_46 cx hP hn dX7_copyFrom_184 ?_
  refine r_iconst cx 0 dX7_copyFrom_187 (by decide) ?_
  refine r_aload_n cx dX7_copyFrom_188 (lv_at hl 0 rfl) ?_
  refine gf7_49 cx hP hn dX7_copyFrom_189 hF (fun v27 hF => ?_)
  refine r_acopy cx hP mw7_53 (dXg hn1 (by decide)) (dXg hn (by decide)) rfl (fun _ => rfl) ⟨Nat.le_of_ble_eq_true rfl, Nat.le_of_ble_eq_true rfl⟩ hl.1 dX7_copyFrom_192 hF (fun s28 H locs hP hF => ?_)
  refine r_iconst cx 0 dX7_copyFrom_195 (by decide) ?_
  refine r_istore_n cx [(2, .int 0), (0, .ref (ad (n + 1) 4)), (1, .ref (ad (n1 + 1) 4))] dX7_copyFrom_196 hl (by decide) rfl (fun ls hl => ?_)
  exact b197 FU 0 s28 _ _ _ hP (lv_sub hl [1, 2, 0] rfl) hF
set_option maxHeartbeats 4000000 in
set_option maxRecDepth 100000 in
theorem w2_copyFrom (l : Launch) (Γ : Wc) (ad : Nat → Nat → Nat) (A : Nat → Prop) (n : Nat) (hn : n < 11) (n1 : Nat) (hn1 : n1 < 11) (σ : Sig) (σ1 : Sig) (hF : f2_copyFrom n n1 σ = some σ1) : MV l SX Γ ad A yX2_copyFrom cX2_copyFrom 3 1 24 [.ref (ad (n + 1) 5), .ref (ad (n1 + 1) 5)] σ σ1 := by
  refine MV.of (by decide) (Nat.le_of_ble_eq_true rfl) ?_
  intro p e s m args below meth c ls cx hr hk hP hl
  have hl : lv_has ls 3 [(0, .ref (ad (n + 1) 5)), (1, .ref (ad (n1 + 1) 5))] := hl
  rw [f2_copyFrom] at hF
  generalize hH0 : s.heap = H0 at hP ⊢
  generalize ([] : List Loc) = locs0 at hP ⊢
  clear hH0
  have b27 : ∀ (fu : Nat) (x2 : Int32) (σ : Sig) (H : Heap) (locs : List Loc) (ls : Array Slot), PS SX Γ ad A s σ H locs → lv_has ls 3 [(0, .ref (ad (n + 1) 5)), (1, .ref (ad (n1 + 1) 5)), (2, .int x2)] → f2_copyFrom_b27 n n1 fu x2 σ = some σ1 → W p l e (rmz 1 24) s m args below meth c H locs 0 0 (QV SX Γ ad A below args s σ1) (F0 m 27 ls []) := by
    intro fu
    induction fu with
    | zero => intro x2 σ H locs ls hP hl hF; exact nofu hF
    | succ fu ih =>
      intro x2 σ H locs ls hP hl hF
      rw [f2_copyFrom_b27] at hF
      refine r_iload_n cx dX2_copyFrom_27 (lv_at hl 2 rfl) ?_
      refine r_aload_n cx dX2_copyFrom_28 (lv_at hl 0 rfl) ?_
      refine gf2_19 cx hP hn dX2_copyFrom_29 hF (fun v1 hF => ?_)
      refine r_icmp_ge cx 53 dX2_copyFrom_32 (by decide) hF (fun hF => ?_) (fun hF => ?_)
      · exact r_vret cx hP hr hk dX2_copyFrom_53 hF
      · refine r_aload_n cx dX2_copyFrom_35 (lv_at hl 0 rfl) ?_
        refine gf2_15 cx hP hn dX2_copyFrom_36 ?_
        refine r_iload_n cx dX2_copyFrom_39 (lv_at hl 2 rfl) ?_
        refine r_aload_n cx dX2_copyFrom_40 (lv_at hl 1 rfl) ?_
        refine gf2_15 cx hP hn1 dX2_copyFrom_41 ?_
        refine r_iload_n cx dX2_copyFrom_44 (lv_at hl 2 rfl) ?_
        refine r_zald cx hP (dXg hn1 (by decide)) rfl dX2_copyFrom_45 hF (fun v2 hF => ?_)
        refine r_zast cx hP (dXg hn (by decide)) (fun _ => rfl) dX2_copyFrom_46 hF (fun s3 H locs hP hF => ?_)
        refine r_iinc cx (k := 2) (w := 1) (fun v4 => [(2, .int v4), (0, .ref (ad (n + 1) 5)), (1, .ref (ad (n1 + 1) 5))]) dX2_copyFrom_47 hl rfl (by decide) (by decide) hF (fun _ => rfl) (fun v4 ls hF hl => ?_)
        refine r_goto cx 27 dX2_copyFrom_50 (by decide) ?_
        exact ih v4 s3 _ _ _ hP (lv_sub hl [1, 2, 0] rfl) hF
  refine r_aload_n cx dX2_copyFrom_0 (lv_at hl 0 rfl) ?_
  refine r_aload_n cx dX2_copyFrom_1 (lv_at hl 1 rfl) ?_
  refine gf2_19 cx hP hn1 dX2_copyFrom_2 hF (fun v5 hF => ?_)
  refine pf2_19 cx hP hn dX2_copyFrom_5 hF (fun s6 H locs hP hF => ?_)
  refine r_aload_n cx dX2_copyFrom_8 (lv_at hl 1 rfl) ?_
  refine gf2_9 cx hP hn1 dX2_copyFrom_9 ?_
  refine r_iconst cx 0 dX2_copyFrom_12 (by decide) ?_
  refine r_aload_n cx dX2_copyFrom_13 (lv_at hl 0 rfl) ?_
  refine gf2_9 cx hP hn dX2_copyFrom_14 ?_
  refine r_iconst cx 0 dX2_copyFrom_17 (by decide) ?_
  refine r_aload_n cx dX2_copyFrom_18 (lv_at hl 0 rfl) ?_
  refine gf2_19 cx hP hn dX2_copyFrom_19 hF (fun v7 hF => ?_)
  refine r_acopy cx hP mw2_23 (dXg hn1 (by decide)) (dXg hn (by decide)) rfl (fun _ => rfl) ⟨Nat.le_of_ble_eq_true rfl, Nat.le_of_ble_eq_true rfl⟩ hl.1 dX2_copyFrom_22 hF (fun s8 H locs hP hF => ?_)
  refine r_iconst cx 0 dX2_copyFrom_25 (by decide) ?_
  refine r_istore_n cx [(2, .int 0), (0, .ref (ad (n + 1) 5)), (1, .ref (ad (n1 + 1) 5))] dX2_copyFrom_26 hl (by decide) rfl (fun ls hl => ?_)
  exact b27 FU 0 s8 _ _ _ hP (lv_sub hl [1, 2, 0] rfl) hF
set_option maxHeartbeats 4000000 in
set_option maxRecDepth 100000 in
theorem w1_copyFrom (l : Launch) (Γ : Wc) (ad : Nat → Nat → Nat) (A : Nat → Prop) (n : Nat) (hn : n < 11) (n1 : Nat) (hn1 : n1 < 11) (σ : Sig) (σ1 : Sig) (hF : f1_copyFrom n n1 σ = some σ1) : MV l SX Γ ad A yX1_copyFrom cX1_copyFrom 2 0 0 [.ref (ad (n + 1) 6), .ref (ad (n1 + 1) 6)] σ σ1 := by
  refine MV.of (by decide) (Nat.le_of_ble_eq_true rfl) ?_
  intro p e s m args below meth c ls cx hr hk hP hl
  have hl : lv_has ls 2 [(0, .ref (ad (n + 1) 6)), (1, .ref (ad (n1 + 1) 6))] := hl
  rw [f1_copyFrom] at hF
  refine r_aload_n cx dX1_copyFrom_0 (lv_at hl 0 rfl) ?_
  refine r_aload_n cx dX1_copyFrom_1 (lv_at hl 1 rfl) ?_
  refine gf1_7 cx hP hn1 dX1_copyFrom_2 hF (fun v1 hF => ?_)
  refine pf1_7 cx hP hn dX1_copyFrom_5 hF (fun s2 H locs hP hF => ?_)
  refine r_aload_n cx dX1_copyFrom_8 (lv_at hl 0 rfl) ?_
  refine r_aload_n cx dX1_copyFrom_9 (lv_at hl 1 rfl) ?_
  refine gf1_13 cx hP hn1 dX1_copyFrom_10 hF (fun v3 hF => ?_)
  refine pf1_13 cx hP hn dX1_copyFrom_13 hF (fun s4 H locs hP hF => ?_)
  refine r_aload_n cx dX1_copyFrom_16 (lv_at hl 0 rfl) ?_
  refine r_aload_n cx dX1_copyFrom_17 (lv_at hl 1 rfl) ?_
  refine gf1_16 cx hP hn1 dX1_copyFrom_18 hF (fun v5 hF => ?_)
  refine pf1_16 cx hP hn dX1_copyFrom_21 hF (fun s6 H locs hP hF => ?_)
  refine r_aload_n cx dX1_copyFrom_24 (lv_at hl 0 rfl) ?_
  refine r_aload_n cx dX1_copyFrom_25 (lv_at hl 1 rfl) ?_
  refine gf1_19 cx hP hn1 dX1_copyFrom_26 hF (fun v7 hF => ?_)
  refine pf1_19 cx hP hn dX1_copyFrom_29 hF (fun s8 H locs hP hF => ?_)
  refine r_aload_n cx dX1_copyFrom_32 (lv_at hl 0 rfl) ?_
  refine r_aload_n cx dX1_copyFrom_33 (lv_at hl 1 rfl) ?_
  refine gf1_22 cx hP hn1 dX1_copyFrom_34 hF (fun v9 hF => ?_)
  refine pf1_22 cx hP hn dX1_copyFrom_37 hF (fun s10 H locs hP hF => ?_)
  refine r_aload_n cx dX1_copyFrom_40 (lv_at hl 0 rfl) ?_
  refine r_aload_n cx dX1_copyFrom_41 (lv_at hl 1 rfl) ?_
  refine gf1_25 cx hP hn1 dX1_copyFrom_42 hF (fun v11 hF => ?_)
  refine pf1_25 cx hP hn dX1_copyFrom_45 hF (fun s12 H locs hP hF => ?_)
  exact r_vret cx hP hr hk dX1_copyFrom_48 hF
set_option maxHeartbeats 4000000 in
set_option maxRecDepth 100000 in
theorem w4_copyFrom (l : Launch) (Γ : Wc) (ad : Nat → Nat → Nat) (A : Nat → Prop) (n : Nat) (hn : n < 11) (n1 : Nat) (hn1 : n1 < 11) (σ : Sig) (σ1 : Sig) (hF : f4_copyFrom n n1 σ = some σ1) : MV l SX Γ ad A yX4_copyFrom cX4_copyFrom 2 2 46 [.ref (ad (n + 1) 0), .ref (ad (n1 + 1) 0)] σ σ1 := by
  refine MV.of (by decide) (Nat.le_of_ble_eq_true rfl) ?_
  intro p e s m args below meth c ls cx hr hk hP hl
  have hl : lv_has ls 2 [(0, .ref (ad (n + 1) 0)), (1, .ref (ad (n1 + 1) 0))] := hl
  rw [f4_copyFrom] at hF
  refine r_aload_n cx dX4_copyFrom_0 (lv_at hl 0 rfl) ?_
  refine gf4_12 cx hP hn dX4_copyFrom_1 ?_
  refine r_aload_n cx dX4_copyFrom_4 (lv_at hl 1 rfl) ?_
  refine gf4_12 cx hP hn1 dX4_copyFrom_5 ?_
  obtain ⟨s1, hc, hF⟩ := bnd_some hF
  refine r_callVv cx hP (As := [.ref (ad (n1 + 1) 1)]) (w3_copyFrom l Γ ad A n hn n1 hn1 σ s1 hc) mw4_67 ⟨Nat.le_of_ble_eq_true rfl, Nat.le_of_ble_eq_true rfl⟩ (dXg hn (by decide)) rfl rfl rfl (Nat.le_of_ble_eq_true rfl) hl.1 ⟨Nat.zero_le _, Nat.zero_le _⟩ dX4_copyFrom_8 (fun H locs hP => ?_)
  refine r_aload_n cx dX4_copyFrom_11 (lv_at hl 0 rfl) ?_
  refine gf4_21 cx hP hn dX4_copyFrom_12 ?_
  refine r_aload_n cx dX4_copyFrom_15 (lv_at hl 1 rfl) ?_
  refine gf4_21 cx hP hn1 dX4_copyFrom_16 ?_
  obtain ⟨s2, hc, hF⟩ := bnd_some hF
  refine r_callVv cx hP (As := [.ref (ad (n1 + 1) 2)]) (w10_copyFrom l Γ ad A n hn n1 hn1 s1 s2 hc) mw4_71 ⟨Nat.le_of_ble_eq_true rfl, Nat.le_of_ble_eq_true rfl⟩ (dXg hn (by decide)) rfl rfl rfl (Nat.le_of_ble_eq_true rfl) hl.1 ⟨Nat.zero_le _, Nat.zero_le _⟩ dX4_copyFrom_19 (fun H locs hP => ?_)
  refine r_aload_n cx dX4_copyFrom_22 (lv_at hl 0 rfl) ?_
  refine gf4_28 cx hP hn dX4_copyFrom_23 ?_
  refine r_aload_n cx dX4_copyFrom_26 (lv_at hl 1 rfl) ?_
  refine gf4_28 cx hP hn1 dX4_copyFrom_27 ?_
  obtain ⟨s3, hc, hF⟩ := bnd_some hF
  refine r_callVv cx hP (As := [.ref (ad (n1 + 1) 3)]) (w0_copyFrom l Γ ad A n hn n1 hn1 s2 s3 hc) mw4_74 ⟨Nat.le_of_ble_eq_true rfl, Nat.le_of_ble_eq_true rfl⟩ (dXg hn (by decide)) rfl rfl rfl (Nat.le_of_ble_eq_true rfl) hl.1 ⟨Nat.zero_le _, Nat.zero_le _⟩ dX4_copyFrom_30 (fun H locs hP => ?_)
  refine r_aload_n cx dX4_copyFrom_33 (lv_at hl 0 rfl) ?_
  refine gf4_35 cx hP hn dX4_copyFrom_34 ?_
  refine r_aload_n cx dX4_copyFrom_37 (lv_at hl 1 rfl) ?_
  refine gf4_35 cx hP hn1 dX4_copyFrom_38 ?_
  obtain ⟨s4, hc, hF⟩ := bnd_some hF
  refine r_callVv cx hP (As := [.ref (ad (n1 + 1) 4)]) (w7_copyFrom l Γ ad A n hn n1 hn1 s3 s4 hc) mw4_77 ⟨Nat.le_of_ble_eq_true rfl, Nat.le_of_ble_eq_true rfl⟩ (dXg hn (by decide)) rfl rfl rfl (Nat.le_of_ble_eq_true rfl) hl.1 ⟨Nat.zero_le _, Nat.zero_le _⟩ dX4_copyFrom_41 (fun H locs hP => ?_)
  refine r_aload_n cx dX4_copyFrom_44 (lv_at hl 0 rfl) ?_
  refine gf4_42 cx hP hn dX4_copyFrom_45 ?_
  refine r_aload_n cx dX4_copyFrom_48 (lv_at hl 1 rfl) ?_
  refine gf4_42 cx hP hn1 dX4_copyFrom_49 ?_
  obtain ⟨s5, hc, hF⟩ := bnd_some hF
  refine r_callVv cx hP (As := [.ref (ad (n1 + 1) 5)]) (w2_copyFrom l Γ ad A n hn n1 hn1 s4 s5 hc) mw4_80 ⟨Nat.le_of_ble_eq_true rfl, Nat.le_of_ble_eq_true rfl⟩ (dXg hn (by decide)) rfl rfl rfl (Nat.le_of_ble_eq_true rfl) hl.1 ⟨Nat.zero_le _, Nat.zero_le _⟩ dX4_copyFrom_52 (fun H locs hP => ?_)
  refine r_aload_n cx dX4_copyFrom_55 (lv_at hl 0 rfl) ?_
  refine gf4_49 cx hP hn dX4_copyFrom_56 ?_
  refine r_aload_n cx dX4_copyFrom_59 (lv_at hl 1 rfl) ?_
  refine gf4_49 cx hP hn1 dX4_copyFrom_60 ?_
  obtain ⟨s6, hc, hF⟩ := bnd_some hF
  refine r_callVv cx hP (As := [.ref (ad (n1 + 1) 6)]) (w1_copyFrom l Γ ad A n hn n1 hn1 s5 s6 hc) mw4_83 ⟨Nat.le_of_ble_eq_true rfl, Nat.le_of_ble_eq_true rfl⟩ (dXg hn (by decide)) rfl rfl rfl (Nat.le_of_ble_eq_true rfl) hl.1 ⟨Nat.zero_le _, Nat.zero_le _⟩ dX4_copyFrom_63 (fun H locs hP => ?_)
  refine r_aload_n cx dX4_copyFrom_66 (lv_at hl 0 rfl) ?_
  refine r_aload_n cx dX4_copyFrom_67 (lv_at hl 1 rfl) ?_
  refine gf4_64 cx hP hn1 dX4_copyFrom_68 hF (fun v7 hF => ?_)
  refine pf4_64 cx hP hn dX4_copyFrom_71 hF (fun s8 H locs hP hF => ?_)
  exact r_vret cx hP hr hk dX4_copyFrom_74 hF
set_option maxHeartbeats 4000000 in
set_option maxRecDepth 100000 in
theorem w5_remember (l : Launch) (Γ : Wc) (ad : Nat → Nat → Nat) (A : Nat → Prop) (n1 : Nat) (hn1 : n1 < 11) (σ : Sig) (σ1 : Sig) (hF : f5_remember n1 σ = some σ1) : MV l SX Γ ad A yX5_remember cX5_remember 2 3 67 [.ref (ad 0 1), .ref (ad (n1 + 1) 0)] σ σ1 := by
  refine MV.of (by decide) (Nat.le_of_ble_eq_true rfl) ?_
  intro p e s m args below meth c ls cx hr hk hP hl
  have hl : lv_has ls 2 [(0, .ref (ad 0 1)), (1, .ref (ad (n1 + 1) 0))] := hl
  rw [f5_remember] at hF
  refine r_aload_n cx dX5_remember_0 (lv_at hl 0 rfl) ?_
  refine gf5_11 cx hP dX5_remember_1 ?_
  refine r_aload_n cx dX5_remember_4 (lv_at hl 0 rfl) ?_
  refine gf5_18 cx hP dX5_remember_5 hF (fun v1 hF => ?_)
  refine r_aald cx hP (t := 3) (dXr (by decide)) rfl rfl rfl dX5_remember_8 hF (fun j2 hj2 _ hF => ?_)
  refine r_aload_n cx dX5_remember_9 (lv_at hl 1 rfl) ?_
  obtain ⟨s3, hc, hF⟩ := bnd_some hF
  refine r_callVv cx hP (As := [.ref (ad (n1 + 1) 0)]) (w4_copyFrom l Γ ad A j2 (Nat.lt_of_lt_of_le hj2 (by decide)) n1 hn1 σ s3 hc) mw5_22 ⟨Nat.le_of_ble_eq_true rfl, Nat.le_of_ble_eq_true rfl⟩ (dXg (Nat.lt_of_lt_of_le hj2 (by decide)) (by decide)) rfl rfl rfl (Nat.le_of_ble_eq_true rfl) hl.1 ⟨Nat.zero_le _, Nat.zero_le _⟩ dX5_remember_10 (fun H locs hP => ?_)
  refine r_aload_n cx dX5_remember_13 (lv_at hl 0 rfl) ?_
  refine r_aload_n cx dX5_remember_14 (lv_at hl 0 rfl) ?_
  refine gf5_18 cx hP dX5_remember_15 hF (fun v4 hF => ?_)
  refine r_iconst cx 1 dX5_remember_18 (by decide) ?_
  refine r_iadd cx dX5_remember_19 hF (fun v5 hF => ?_)
  refine r_bipush cx 8 dX5_remember_20 (by decide) ?_
  refine r_irem cx dX5_remember_22 hF (fun v6 hF => ?_)
  refine pf5_18 cx hP dX5_remember_23 hF (fun s7 H locs hP hF => ?_)
  refine r_aload_n cx dX5_remember_26 (lv_at hl 0 rfl) ?_
  refine r_bipush cx 8 dX5_remember_27 (by decide) ?_
  refine r_aload_n cx dX5_remember_29 (lv_at hl 0 rfl) ?_
  refine gf5_26 cx hP dX5_remember_30 hF (fun v8 hF => ?_)
  refine r_iconst cx 1 dX5_remember_33 (by decide) ?_
  refine r_iadd cx dX5_remember_34 hF (fun v9 hF => ?_)
  refine r_mmin cx mw5_29 ⟨Nat.le_of_ble_eq_true rfl, Nat.le_of_ble_eq_true rfl⟩ ⟨Nat.zero_le _, Nat.zero_le _⟩ hl.1 dX5_remember_35 hF (fun v10 hF => ?_)
  refine pf5_26 cx hP dX5_remember_38 hF (fun s11 H locs hP hF => ?_)
  exact r_vret cx hP hr hk dX5_remember_41 hF
set_option maxHeartbeats 4000000 in
set_option maxRecDepth 100000 in
theorem w11_runScript (l : Launch) (Γ : Wc) (ad : Nat → Nat → Nat) (A : Nat → Prop)  (σ : Sig) (r : Int32) (σ1 : Sig) (hF : f11_runScript  σ = some (r, σ1)) : MI l SX Γ ad A yX11_runScript cX11_runScript 1 (some .int) 9 193 [.ref (ad 0 0)] σ r σ1 := by
  refine MI.of (by decide) (Nat.le_of_ble_eq_true rfl) ?_
  intro p e s m args below meth c ls cx hr hk hP hl
  have hl : lv_has ls 1 [(0, .ref (ad 0 0))] := hl
  rw [f11_runScript] at hF
  refine r_aload_n cx dX11_runScript_0 (lv_at hl 0 rfl) ?_
  refine gf11_29 cx hP dX11_runScript_1 ?_
  obtain ⟨s1, hc, hF⟩ := bnd_some hF
  refine r_callVv cx hP (As := []) (w9_execute l Γ ad A σ s1 hc) mw11_53 ⟨Nat.le_of_ble_eq_true rfl, Nat.le_of_ble_eq_true rfl⟩ (dXr (by decide)) rfl rfl rfl (Nat.le_of_ble_eq_true rfl) hl.1 ⟨Nat.zero_le _, Nat.zero_le _⟩ dX11_runScript_4 (fun H locs hP => ?_)
  refine r_aload_n cx dX11_runScript_7 (lv_at hl 0 rfl) ?_
  refine gf11_37 cx hP dX11_runScript_8 ?_
  refine r_iconst cx 0 dX11_runScript_11 (by decide) ?_
  refine pf11_56 cx hP dX11_runScript_12 hF (fun s2 H locs hP hF => ?_)
  refine r_aload_n cx dX11_runScript_15 (lv_at hl 0 rfl) ?_
  refine gf11_29 cx hP dX11_runScript_16 ?_
  refine gf11_73 cx hP dX11_runScript_19 hF (fun v3 hF => ?_)
  refine r_if_eq cx 27 dX11_runScript_22 (by decide) hF (fun hF => ?_) (fun hF => ?_)
  · refine r_aload_n cx dX11_runScript_27 (lv_at hl 0 rfl) ?_
    refine gf11_22 cx hP dX11_runScript_28 ?_
    refine r_aload_n cx dX11_runScript_31 (lv_at hl 0 rfl) ?_
    refine gf11_12 cx hP dX11_runScript_32 ?_
    obtain ⟨s4, hc, hF⟩ := bnd_some hF
    refine r_callVv cx hP (As := [.ref (ad (8 + 1) 0)]) (w5_remember l Γ ad A 8 (by decide : 8 < 11) s2 s4 hc) mw11_76 ⟨Nat.le_of_ble_eq_true rfl, Nat.le_of_ble_eq_true rfl⟩ (dXr (by decide)) rfl rfl rfl (Nat.le_of_ble_eq_true rfl) hl.1 ⟨Nat.zero_le _, Nat.zero_le _⟩ dX11_runScript_35 (fun H locs hP => ?_)
    refine r_aload_n cx dX11_runScript_38 (lv_at hl 0 rfl) ?_
    refine gf11_12 cx hP dX11_runScript_39 ?_
    refine r_aload_n cx dX11_runScript_42 (lv_at hl 0 rfl) ?_
    refine gf11_29 cx hP dX11_runScript_43 ?_
    refine gf11_60 cx hP dX11_runScript_46 ?_
    obtain ⟨s5, hc, hF⟩ := bnd_some hF
    refine r_callVv cx hP (As := [.ref (ad (10 + 1) 0)]) (w4_copyFrom l Γ ad A 8 (by decide : 8 < 11) 10 (by decide : 10 < 11) s4 s5 hc) mw11_61 ⟨Nat.le_of_ble_eq_true rfl, Nat.le_of_ble_eq_true rfl⟩ (dXg (by decide : 8 < 11) (by decide)) rfl rfl rfl (Nat.le_of_ble_eq_true rfl) hl.1 ⟨Nat.zero_le _, Nat.zero_le _⟩ dX11_runScript_49 (fun H locs hP => ?_)
    refine r_aload_n cx dX11_runScript_52 (lv_at hl 0 rfl) ?_
    refine gf11_12 cx hP dX11_runScript_53 ?_
    refine gf11_79 cx hP (by decide : 8 < 11) dX11_runScript_56 ?_
    refine gf11_83 cx hP (by decide : 8 < 11) dX11_runScript_59 hF (fun v6 hF => ?_)
    exact r_iret cx hP hr hk dX11_runScript_62 hF
  · refine r_iconst cx (-1) dX11_runScript_25 (by decide) ?_
    exact r_iret cx hP hr hk dX11_runScript_26 hF
set_option maxHeartbeats 4000000 in
set_option maxRecDepth 100000 in
theorem w10_has (l : Launch) (Γ : Wc) (ad : Nat → Nat → Nat) (A : Nat → Prop) (n : Nat) (hn : n < 11) (p1 : Int32) (σ : Sig) (r : Int32) (hF : f10_has n p1 σ = some r) : MI l SX Γ ad A yX10_has cX10_has 2 (some .boolean) 0 0 [.ref (ad (n + 1) 2), .int p1] σ r σ := by
  refine MI.of (by decide) (Nat.le_of_ble_eq_true rfl) ?_
  intro p e s m args below meth c ls cx hr hk hP hl
  have hl : lv_has ls 2 [(0, .ref (ad (n + 1) 2)), (1, .int p1)] := hl
  rw [f10_has] at hF
  refine r_iload_n cx dX10_has_0 (lv_at hl 1 rfl) ?_
  refine r_if_lt cx 16 dX10_has_1 (by decide) hF (fun hF => ?_) (fun hF => ?_)
  · refine r_iconst cx 0 dX10_has_16 (by decide) ?_
    exact r_zret cx hP hr hk (by decide) dX10_has_17 (prF hF)
  · refine r_iload_n cx dX10_has_4 (lv_at hl 1 rfl) ?_
    refine r_aload_n cx dX10_has_5 (lv_at hl 0 rfl) ?_
    refine gf10_15 cx hP hn dX10_has_6 hF (fun v1 hF => ?_)
    refine r_icmp_ge cx 16 dX10_has_9 (by decide) hF (fun hF => ?_) (fun hF => ?_)
    · refine r_iconst cx 0 dX10_has_16 (by decide) ?_
      exact r_zret cx hP hr hk (by decide) dX10_has_17 (prF hF)
    · refine r_iconst cx 1 dX10_has_12 (by decide) ?_
      refine r_goto cx 17 dX10_has_13 (by decide) ?_
      exact r_zret cx hP hr hk (by decide) dX10_has_17 (prF hF)
set_option maxHeartbeats 4000000 in
set_option maxRecDepth 100000 in
theorem w11_requireScent (l : Launch) (hst : l.stackTraces = false) (Γ : Wc) (ad : Nat → Nat → Nat) (A : Nat → Prop) (p1 : Int32) (σ : Sig) (q : Xe) (hF : f11_requireScent p1 σ = some q) : MXv l SX Γ ad A yX11_requireScent cX11_requireScent 2 6 90 1 [.ref (ad 0 0), .int p1] σ q := by
  refine MXv.of (by decide) (Nat.le_of_ble_eq_true rfl) ?_
  intro p e s m args below meth c ls cx hnt hr hk hP hl
  have hl : lv_has ls 2 [(0, .ref (ad 0 0)), (1, .int p1)] := hl
  rw [f11_requireScent] at hF
  refine r_aload_n cx dX11_requireScent_0 (lv_at hl 0 rfl) ?_
  refine gf11_12 cx hP dX11_requireScent_1 ?_
  refine gf11_91 cx hP (by decide : 8 < 11) dX11_requireScent_4 ?_
  refine r_iload_n cx dX11_requireScent_7 (lv_at hl 1 rfl) ?_
  obtain ⟨v1, hc, hF⟩ := bnd_some hF
  refine r_callVi cx hP (As := [.int p1]) (w10_has l Γ ad A 8 (by decide : 8 < 11) p1 σ v1 hc) mw11_361 ⟨Nat.le_of_ble_eq_true rfl, Nat.le_of_ble_eq_true rfl⟩ (dXg (by decide : 8 < 11) (by decide)) rfl rfl rfl (Nat.le_of_ble_eq_true rfl) hl.1 ⟨Nat.le_of_ble_eq_true rfl, Nat.le_of_ble_eq_true rfl⟩ dX11_requireScent_8 (fun H locs hP => ?_)
  refine r_if_ne cx 25 dX11_requireScent_11 (by decide) hF (fun hF => ?_) (fun hF => ?_)
  · exact x_vret cx hP hr hk ⟨Nat.le_of_ble_eq_true rfl, Nat.le_of_ble_eq_true rfl⟩ dX11_requireScent_25 hF
  · exact x_throwW cx hP hst hnt hk (text := "no such scent") (k := 2) (by decide) tw_ioobe (by decide +kernel) hl.1 dX11_requireScent_14 dX11_requireScent_17 dX11_requireScent_18 dX11_requireScent_21 dX11_requireScent_24 ⟨Nat.le_of_ble_eq_true rfl, Nat.le_of_ble_eq_true rfl⟩ ⟨Nat.le_of_ble_eq_true rfl, Nat.le_of_ble_eq_true rfl⟩ ⟨Nat.le_of_ble_eq_true rfl, Nat.le_of_ble_eq_true rfl⟩ hF
set_option maxHeartbeats 4000000 in
set_option maxRecDepth 100000 in
theorem w11_requireRange (l : Launch) (hst : l.stackTraces = false) (Γ : Wc) (ad : Nat → Nat → Nat) (A : Nat → Prop) (p0 : Int32) (p1 : Int32) (p2 : Int32) (σ : Sig) (q : Xe) (hF : f11_requireRange p0 p1 p2 σ = some q) : MXv l SX Γ ad A yX11_requireRange cX11_requireRange 3 6 90 1 [.int p0, .int p1, .int p2] σ q := by
  refine MXv.of (by decide) (Nat.le_of_ble_eq_true rfl) ?_
  intro p e s m args below meth c ls cx hnt hr hk hP hl
  have hl : lv_has ls 3 [(0, .int p0), (1, .int p1), (2, .int p2)] := hl
  rw [f11_requireRange] at hF
  generalize hH0 : s.heap = H0 at hP ⊢
  generalize ([] : List Loc) = locs0 at hP ⊢
  clear hH0
  have b10 : ∀ (σ : Sig) (H : Heap) (locs : List Loc) (ls : Array Slot), PS SX Γ ad A s σ H locs → lv_has ls 3 [] → f11_requireRange_b10 σ = some q → W p l e (rmx 6 90 1) s m args below meth c H locs 0 0 (vx_MQ below (QXv SX Γ ad A q) (XXe SX Γ ad A q) args s 1 (6 * 1) A) (F0 m 10 ls []) := by
    intro σ H locs ls hP hl hF
    rw [f11_requireRange_b10] at hF
    exact x_throwW cx hP hst hnt hk (text := "out of range") (k := 1) (by decide) tw_iae (by decide +kernel) hl.1 dX11_requireRange_10 dX11_requireRange_13 dX11_requireRange_14 dX11_requireRange_17 dX11_requireRange_20 ⟨Nat.le_of_ble_eq_true rfl, Nat.le_of_ble_eq_true rfl⟩ ⟨Nat.le_of_ble_eq_true rfl, Nat.le_of_ble_eq_true rfl⟩ ⟨Nat.le_of_ble_eq_true rfl, Nat.le_of_ble_eq_true rfl⟩ hF
  refine r_iload_n cx dX11_requireRange_0 (lv_at hl 0 rfl) ?_
  refine r_iload_n cx dX11_requireRange_1 (lv_at hl 1 rfl) ?_
  refine r_icmp_lt cx 10 dX11_requireRange_2 (by decide) hF (fun hF => ?_) (fun hF => ?_)
  · exact b10 σ _ _ _ hP (lv_sub hl [] rfl) hF
  · refine r_iload_n cx dX11_requireRange_5 (lv_at hl 0 rfl) ?_
    refine r_iload_n cx dX11_requireRange_6 (lv_at hl 2 rfl) ?_
    refine r_icmp_le cx 21 dX11_requireRange_7 (by decide) hF (fun hF => ?_) (fun hF => ?_)
    · exact x_vret cx hP hr hk ⟨Nat.le_of_ble_eq_true rfl, Nat.le_of_ble_eq_true rfl⟩ dX11_requireRange_21 hF
    · exact b10 σ _ _ _ hP (lv_sub hl [] rfl) hF
set_option maxHeartbeats 4000000 in
set_option maxRecDepth 100000 in
theorem w11_setPrice (l : Launch) (hst : l.stackTraces = false) (Γ : Wc) (ad : Nat → Nat → Nat) (A : Nat → Prop) (p1 : Int32) (p2 : Int32) (σ : Sig) (q : Xe) (hF : f11_setPrice p1 p2 σ = some q) : MXi l SX Γ ad A yX11_setPrice cX11_setPrice 4 (some .int) 7 112 2 [.ref (ad 0 0), .int p1, .int p2] σ q := by
  refine MXi.of (by decide) (Nat.le_of_ble_eq_true rfl) ?_
  intro p e s m args below meth c ls cx hnt hr hk hP hl
  have hl : lv_has ls 4 [(0, .ref (ad 0 0)), (1, .int p1), (2, .int p2)] := hl
  rw [f11_setPrice] at hF
  refine r_aload_n cx dX11_setPrice_0 (lv_at hl 0 rfl) ?_
  refine r_iload_n cx dX11_setPrice_1 (lv_at hl 1 rfl) ?_
  refine x_callVv cx hP hnt hk (As := [.int p1]) hF (fun z hz => w11_requireScent l hst Γ ad A p1 σ z hz) mw11_88 ⟨Nat.le_of_ble_eq_true rfl, Nat.le_of_ble_eq_true rfl⟩ (dXr (by decide)) rfl rfl rfl (Nat.le_of_ble_eq_true rfl) hl.1 ⟨Nat.le_of_ble_eq_true rfl, Nat.le_of_ble_eq_true rfl⟩ ⟨Nat.le_of_ble_eq_true rfl, Nat.le_of_ble_eq_true rfl⟩ dX11_setPrice_2 (fun v1 s2 H locs hP hF => ?_)
  refine r_iload_n cx dX11_setPrice_5 (lv_at hl 2 rfl) ?_
  refine r_iconst cx 1 dX11_setPrice_6 (by decide) ?_
  refine r_bipush cx 99 dX11_setPrice_7 (by decide) ?_
  refine x_callSv cx hP hnt hk (As := [.int p2, .int 1, .int 99]) hF (fun z hz => w11_requireRange l hst Γ ad A p2 1 99 s2 z hz) mw11_69 ⟨Nat.le_of_ble_eq_true rfl, Nat.le_of_ble_eq_true rfl⟩ rfl (Nat.le_of_ble_eq_true rfl) hl.1 ⟨Nat.le_of_ble_eq_true rfl, Nat.le_of_ble_eq_true rfl⟩ ⟨Nat.le_of_ble_eq_true rfl, Nat.le_of_ble_eq_true rfl⟩ dX11_setPrice_9 (fun v3 s4 H locs hP hF => ?_)
  refine r_aload_n cx dX11_setPrice_12 (lv_at hl 0 rfl) ?_
  refine gf11_22 cx hP dX11_setPrice_13 ?_
  refine r_aload_n cx dX11_setPrice_16 (lv_at hl 0 rfl) ?_
  refine gf11_12 cx hP dX11_setPrice_17 ?_
  obtain ⟨s5, hc, hF⟩ := bnd_some hF
  refine r_callVv cx hP (As := [.ref (ad (8 + 1) 0)]) (w5_remember l Γ ad A 8 (by decide : 8 < 11) s4 s5 hc) mw11_76 ⟨Nat.le_of_ble_eq_true rfl, Nat.le_of_ble_eq_true rfl⟩ (dXr (by decide)) rfl rfl rfl (Nat.le_of_ble_eq_true rfl) hl.1 ⟨Nat.le_of_ble_eq_true rfl, Nat.le_of_ble_eq_true rfl⟩ dX11_setPrice_20 (fun H locs hP => ?_)
  refine r_aload_n cx dX11_setPrice_23 (lv_at hl 0 rfl) ?_
  refine gf11_12 cx hP dX11_setPrice_24 ?_
  refine gf11_91 cx hP (by decide : 8 < 11) dX11_setPrice_27 ?_
  refine gf11_95 cx hP (by decide : 8 < 11) dX11_setPrice_30 ?_
  refine r_iload_n cx dX11_setPrice_33 (lv_at hl 1 rfl) ?_
  refine r_iald cx hP (dXg (by decide : 8 < 11) (by decide)) rfl dX11_setPrice_34 hF (fun v6 hF => ?_)
  refine r_istore_n cx [(3, .int v6), (0, .ref (ad 0 0)), (1, .int p1), (2, .int p2)] dX11_setPrice_35 hl (by decide) rfl (fun ls hl => ?_)
  refine r_aload_n cx dX11_setPrice_36 (lv_at hl 1 rfl) ?_
  refine gf11_12 cx hP dX11_setPrice_37 ?_
  refine gf11_91 cx hP (by decide : 8 < 11) dX11_setPrice_40 ?_
  refine gf11_95 cx hP (by decide : 8 < 11) dX11_setPrice_43 ?_
  refine r_iload_n cx dX11_setPrice_46 (lv_at hl 2 rfl) ?_
  refine r_iload_n cx dX11_setPrice_47 (lv_at hl 3 rfl) ?_
  refine r_iast cx hP (dXg (by decide : 8 < 11) (by decide)) (fun _ => rfl) dX11_setPrice_48 hF (fun s7 H locs hP hF => ?_)
  refine r_iload_n cx dX11_setPrice_49 (lv_at hl 0 rfl) ?_
  exact x_iret cx hP hr hk ⟨Nat.le_of_ble_eq_true rfl, Nat.le_of_ble_eq_true rfl⟩ dX11_setPrice_50 hF
set_option maxHeartbeats 4000000 in
set_option maxRecDepth 100000 in
theorem w11_setRate (l : Launch) (hst : l.stackTraces = false) (Γ : Wc) (ad : Nat → Nat → Nat) (A : Nat → Prop) (p1 : Int32) (σ : Sig) (q : Xe) (hF : f11_setRate p1 σ = some q) : MXi l SX Γ ad A yX11_setRate cX11_setRate 3 (some .int) 7 112 1 [.ref (ad 0 0), .int p1] σ q := by
  refine MXi.of (by decide) (Nat.le_of_ble_eq_true rfl) ?_
  intro p e s m args below meth c ls cx hnt hr hk hP hl
  have hl : lv_has ls 3 [(0, .ref (ad 0 0)), (1, .int p1)] := hl
  rw [f11_setRate] at hF
  refine r_iload_n cx dX11_setRate_0 (lv_at hl 1 rfl) ?_
  refine r_iconst cx 1 dX11_setRate_1 (by decide) ?_
  refine r_bipush cx 20 dX11_setRate_2 (by decide) ?_
  refine x_callSv cx hP hnt hk (As := [.int p1, .int 1, .int 20]) hF (fun z hz => w11_requireRange l hst Γ ad A p1 1 20 σ z hz) mw11_69 ⟨Nat.le_of_ble_eq_true rfl, Nat.le_of_ble_eq_true rfl⟩ rfl (Nat.le_of_ble_eq_true rfl) hl.1 ⟨Nat.le_of_ble_eq_true rfl, Nat.le_of_ble_eq_true rfl⟩ ⟨Nat.le_of_ble_eq_true rfl, Nat.le_of_ble_eq_true rfl⟩ dX11_setRate_4 (fun v1 s2 H locs hP hF => ?_)
  refine r_aload_n cx dX11_setRate_7 (lv_at hl 0 rfl) ?_
  refine gf11_22 cx hP dX11_setRate_8 ?_
  refine r_aload_n cx dX11_setRate_11 (lv_at hl 0 rfl) ?_
  refine gf11_12 cx hP dX11_setRate_12 ?_
  obtain ⟨s3, hc, hF⟩ := bnd_some hF
  refine r_callVv cx hP (As := [.ref (ad (8 + 1) 0)]) (w5_remember l Γ ad A 8 (by decide : 8 < 11) s2 s3 hc) mw11_76 ⟨Nat.le_of_ble_eq_true rfl, Nat.le_of_ble_eq_true rfl⟩ (dXr (by decide)) rfl rfl rfl (Nat.le_of_ble_eq_true rfl) hl.1 ⟨Nat.le_of_ble_eq_true rfl, Nat.le_of_ble_eq_true rfl⟩ dX11_setRate_15 (fun H locs hP => ?_)
  refine r_aload_n cx dX11_setRate_18 (lv_at hl 0 rfl) ?_
  refine gf11_12 cx hP dX11_setRate_19 ?_
  refine gf11_91 cx hP (by decide : 8 < 11) dX11_setRate_22 ?_
  refine gf11_101 cx hP (by decide : 8 < 11) dX11_setRate_25 hF (fun v4 hF => ?_)
  refine r_istore_n cx [(2, .int v4), (0, .ref (ad 0 0)), (1, .int p1)] dX11_setRate_28 hl (by decide) rfl (fun ls hl => ?_)
  refine r_aload_n cx dX11_setRate_29 (lv_at hl 1 rfl) ?_
  refine gf11_12 cx hP dX11_setRate_30 ?_
  refine gf11_91 cx hP (by decide : 8 < 11) dX11_setRate_33 ?_
  refine r_iload_n cx dX11_setRate_36 (lv_at hl 2 rfl) ?_
  refine pf11_101 cx hP (by decide : 8 < 11) dX11_setRate_37 hF (fun s5 H locs hP hF => ?_)
  refine r_iload_n cx dX11_setRate_40 (lv_at hl 0 rfl) ?_
  exact x_iret cx hP hr hk ⟨Nat.le_of_ble_eq_true rfl, Nat.le_of_ble_eq_true rfl⟩ dX11_setRate_41 hF
set_option maxHeartbeats 4000000 in
set_option maxRecDepth 100000 in
theorem w11_requireState (l : Launch) (hst : l.stackTraces = false) (Γ : Wc) (ad : Nat → Nat → Nat) (A : Nat → Prop) (p0 : Int32) (σ : Sig) (q : Xe) (hF : f11_requireState p0 σ = some q) : MXv l SX Γ ad A yX11_requireState cX11_requireState 1 6 90 1 [.int p0] σ q := by
  refine MXv.of (by decide) (Nat.le_of_ble_eq_true rfl) ?_
  intro p e s m args below meth c ls cx hnt hr hk hP hl
  have hl : lv_has ls 1 [(0, .int p0)] := hl
  rw [f11_requireState] at hF
  refine r_iload_n cx dX11_requireState_0 (lv_at hl 0 rfl) ?_
  refine r_if_ne cx 15 dX11_requireState_1 (by decide) hF (fun hF => ?_) (fun hF => ?_)
  · exact x_vret cx hP hr hk ⟨Nat.le_of_ble_eq_true rfl, Nat.le_of_ble_eq_true rfl⟩ dX11_requireState_15 hF
  · exact x_throwW cx hP hst hnt hk (text := "not possible now") (k := 3) (by decide) tw_ise (by decide +kernel) hl.1 dX11_requireState_4 dX11_requireState_7 dX11_requireState_8 dX11_requireState_11 dX11_requireState_14 ⟨Nat.le_of_ble_eq_true rfl, Nat.le_of_ble_eq_true rfl⟩ ⟨Nat.le_of_ble_eq_true rfl, Nat.le_of_ble_eq_true rfl⟩ ⟨Nat.le_of_ble_eq_true rfl, Nat.le_of_ble_eq_true rfl⟩ hF
set_option maxHeartbeats 4000000 in
set_option maxRecDepth 100000 in
theorem w11_layBed (l : Launch) (hst : l.stackTraces = false) (Γ : Wc) (ad : Nat → Nat → Nat) (A : Nat → Prop) (p1 : Int32) (p2 : Int32) (p3 : Int32) (p4 : Int32) (σ : Sig) (q : Xe) (hF : f11_layBed p1 p2 p3 p4 σ = some q) : MXi l SX Γ ad A yX11_layBed cX11_layBed 5 (some .int) 7 112 5 [.ref (ad 0 0), .int p1, .int p2, .int p3, .int p4] σ q := by
  refine MXi.of (by decide) (Nat.le_of_ble_eq_true rfl) ?_
  intro p e s m args below meth c ls cx hnt hr hk hP hl
  have hl : lv_has ls 5 [(0, .ref (ad 0 0)), (1, .int p1), (2, .int p2), (3, .int p3), (4, .int p4)] := hl
  rw [f11_layBed] at hF
  refine r_aload_n cx dX11_layBed_0 (lv_at hl 0 rfl) ?_
  refine r_iload_n cx dX11_layBed_1 (lv_at hl 1 rfl) ?_
  refine x_callVv cx hP hnt hk (As := [.int p1]) hF (fun z hz => w11_requireScent l hst Γ ad A p1 σ z hz) mw11_88 ⟨Nat.le_of_ble_eq_true rfl, Nat.le_of_ble_eq_true rfl⟩ (dXr (by decide)) rfl rfl rfl (Nat.le_of_ble_eq_true rfl) hl.1 ⟨Nat.le_of_ble_eq_true rfl, Nat.le_of_ble_eq_true rfl⟩ ⟨Nat.le_of_ble_eq_true rfl, Nat.le_of_ble_eq_true rfl⟩ dX11_layBed_2 (fun v1 s2 H locs hP hF => ?_)
  refine r_iload_n cx dX11_layBed_5 (lv_at hl 2 rfl) ?_
  refine r_iconst cx 1 dX11_layBed_6 (by decide) ?_
  refine r_bipush cx 20 dX11_layBed_7 (by decide) ?_
  refine x_callSv cx hP hnt hk (As := [.int p2, .int 1, .int 20]) hF (fun z hz => w11_requireRange l hst Γ ad A p2 1 20 s2 z hz) mw11_69 ⟨Nat.le_of_ble_eq_true rfl, Nat.le_of_ble_eq_true rfl⟩ rfl (Nat.le_of_ble_eq_true rfl) hl.1 ⟨Nat.le_of_ble_eq_true rfl, Nat.le_of_ble_eq_true rfl⟩ ⟨Nat.le_of_ble_eq_true rfl, Nat.le_of_ble_eq_true rfl⟩ dX11_layBed_9 (fun v3 s4 H locs hP hF => ?_)
  refine r_iload_n cx dX11_layBed_12 (lv_at hl 3 rfl) ?_
  refine r_iconst cx 0 dX11_layBed_13 (by decide) ?_
  refine r_bipush cx 99 dX11_layBed_14 (by decide) ?_
  refine x_callSv cx hP hnt hk (As := [.int p3, .int 0, .int 99]) hF (fun z hz => w11_requireRange l hst Γ ad A p3 0 99 s4 z hz) mw11_69 ⟨Nat.le_of_ble_eq_true rfl, Nat.le_of_ble_eq_true rfl⟩ rfl (Nat.le_of_ble_eq_true rfl) hl.1 ⟨Nat.le_of_ble_eq_true rfl, Nat.le_of_ble_eq_true rfl⟩ ⟨Nat.le_of_ble_eq_true rfl, Nat.le_of_ble_eq_true rfl⟩ dX11_layBed_16 (fun v5 s6 H locs hP hF => ?_)
  refine r_iload cx dX11_layBed_19 (lv_at hl 4 rfl) ?_
  refine r_iload_n cx dX11_layBed_21 (lv_at hl 3 rfl) ?_
  refine r_bipush cx 99 dX11_layBed_22 (by decide) ?_
  refine x_callSv cx hP hnt hk (As := [.int p4, .int p3, .int 99]) hF (fun z hz => w11_requireRange l hst Γ ad A p4 p3 99 s6 z hz) mw11_69 ⟨Nat.le_of_ble_eq_true rfl, Nat.le_of_ble_eq_true rfl⟩ rfl (Nat.le_of_ble_eq_true rfl) hl.1 ⟨Nat.le_of_ble_eq_true rfl, Nat.le_of_ble_eq_true rfl⟩ ⟨Nat.le_of_ble_eq_true rfl, Nat.le_of_ble_eq_true rfl⟩ dX11_layBed_24 (fun v7 s8 H locs hP hF => ?_)
  refine r_aload_n cx dX11_layBed_27 (lv_at hl 0 rfl) ?_
  refine gf11_12 cx hP dX11_layBed_28 ?_
  refine gf11_104 cx hP (by decide : 8 < 11) dX11_layBed_31 ?_
  obtain ⟨v9, hc, hF⟩ := bnd_some hF
  refine r_callVi cx hP (As := []) (w0_hasRoom l Γ ad A 8 (by decide : 8 < 11) s8 v9 hc) mw11_108 ⟨Nat.le_of_ble_eq_true rfl, Nat.le_of_ble_eq_true rfl⟩ (dXg (by decide : 8 < 11) (by decide)) rfl rfl rfl (Nat.le_of_ble_eq_true rfl) hl.1 ⟨Nat.le_of_ble_eq_true rfl, Nat.le_of_ble_eq_true rfl⟩ dX11_layBed_34 (fun H locs hP => ?_)
  refine x_callSv cx hP hnt hk (As := [.int v9]) hF (fun z hz => w11_requireState l hst Γ ad A v9 s8 z hz) mw11_114 ⟨Nat.le_of_ble_eq_true rfl, Nat.le_of_ble_eq_true rfl⟩ rfl (Nat.le_of_ble_eq_true rfl) hl.1 ⟨Nat.le_of_ble_eq_true rfl, Nat.le_of_ble_eq_true rfl⟩ ⟨Nat.le_of_ble_eq_true rfl, Nat.le_of_ble_eq_true rfl⟩ dX11_layBed_37 (fun v10 s11 H locs hP hF => ?_)
  refine r_aload_n cx dX11_layBed_40 (lv_at hl 0 rfl) ?_
  refine gf11_22 cx hP dX11_layBed_41 ?_
  refine r_aload_n cx dX11_layBed_44 (lv_at hl 0 rfl) ?_
  refine gf11_12 cx hP dX11_layBed_45 ?_
  obtain ⟨s12, hc, hF⟩ := bnd_some hF
  refine r_callVv cx hP (As := [.ref (ad (8 + 1) 0)]) (w5_remember l Γ ad A 8 (by decide : 8 < 11) s11 s12 hc) mw11_76 ⟨Nat.le_of_ble_eq_true rfl, Nat.le_of_ble_eq_true rfl⟩ (dXr (by decide)) rfl rfl rfl (Nat.le_of_ble_eq_true rfl) hl.1 ⟨Nat.le_of_ble_eq_true rfl, Nat.le_of_ble_eq_true rfl⟩ dX11_layBed_48 (fun H locs hP => ?_)
  refine r_aload_n cx dX11_layBed_51 (lv_at hl 0 rfl) ?_
  refine gf11_12 cx hP dX11_layBed_52 ?_
  refine gf11_104 cx hP (by decide : 8 < 11) dX11_layBed_55 ?_
  refine r_iload_n cx dX11_layBed_58 (lv_at hl 1 rfl) ?_
  refine r_iload_n cx dX11_layBed_59 (lv_at hl 2 rfl) ?_
  refine r_iload_n cx dX11_layBed_60 (lv_at hl 3 rfl) ?_
  refine r_iload cx dX11_layBed_61 (lv_at hl 4 rfl) ?_
  obtain ⟨v13, s14, hc, hF⟩ := bns_some hF
  refine r_callVi cx hP (As := [.int p1, .int p2, .int p3, .int p4]) (w0_add l Γ ad A 8 (by decide : 8 < 11) p1 p2 p3 p4 s12 v13 s14 hc) mw11_118 ⟨Nat.le_of_ble_eq_true rfl, Nat.le_of_ble_eq_true rfl⟩ (dXg (by decide : 8 < 11) (by decide)) rfl rfl rfl (Nat.le_of_ble_eq_true rfl) hl.1 ⟨Nat.le_of_ble_eq_true rfl, Nat.le_of_ble_eq_true rfl⟩ dX11_layBed_63 (fun H locs hP => ?_)
  exact x_iret cx hP hr hk ⟨Nat.le_of_ble_eq_true rfl, Nat.le_of_ble_eq_true rfl⟩ dX11_layBed_66 hF
set_option maxHeartbeats 4000000 in
set_option maxRecDepth 100000 in
theorem w3_openTicksOfDay (l : Launch) (Γ : Wc) (ad : Nat → Nat → Nat) (A : Nat → Prop) (n : Nat) (hn : n < 11) (σ : Sig) (r : Int32) (hF : f3_openTicksOfDay n σ = some r) : MI l SX Γ ad A yX3_openTicksOfDay cX3_openTicksOfDay 3 (some .int) 1 22 [.ref (ad (n + 1) 1)] σ r σ := by
  refine MI.of (by decide) (Nat.le_of_ble_eq_true rfl) ?_
  intro p e s m args below meth c ls cx hr hk hP hl
  have hl : lv_has ls 3 [(0, .ref (ad (n + 1) 1))] := hl
  rw [f3_openTicksOfDay] at hF
  generalize hH0 : s.heap = H0 at hP ⊢
  generalize ([] : List Loc) = locs0 at hP ⊢
  clear hH0
  have b22 : ∀ (rc : Int32 → Int32 → Sig → Option (Int32)) (ih : ∀ (x1 : Int32) (x2 : Int32) (H : Heap) (locs : List Loc) (ls : Array Slot), PS SX Γ ad A s σ H locs → lv_has ls 3 [(0, .ref (ad (n + 1) 1)), (1, .int x1), (2, .int x2)] → rc x1 x2 σ = some r → W p l e (rmz 1 22) s m args below meth c H locs 0 0 (QI SX Γ ad A below args s r σ) (F0 m 5 ls [])) (x1 : Int32) (x2 : Int32) (H : Heap) (locs : List Loc) (ls : Array Slot), PS SX Γ ad A s σ H locs → lv_has ls 3 [(0, .ref (ad (n + 1) 1)), (1, .int x1), (2, .int x2)] → f3_openTicksOfDay_b22 n rc x1 x2 σ = some r → W p l e (rmz 1 22) s m args below meth c H locs 0 0 (QI SX Γ ad A below args s r σ) (F0 m 22 ls []) := by
    intro rc ih x1 x2 H locs ls hP hl hF
    rw [f3_openTicksOfDay_b22] at hF
    refine r_iinc cx (k := 2) (w := 1) (fun v1 => [(2, .int v1), (0, .ref (ad (n + 1) 1)), (1, .int x1)]) dX3_openTicksOfDay_22 hl rfl (by decide) (by decide) hF (fun _ => rfl) (fun v1 ls hF hl => ?_)
    refine r_goto cx 5 dX3_openTicksOfDay_25 (by decide) ?_
    exact ih x1 v1 _ _ _ hP (lv_sub hl [1, 2, 0] rfl) hF
  have b5 : ∀ (fu : Nat) (x1 : Int32) (x2 : Int32) (H : Heap) (locs : List Loc) (ls : Array Slot), PS SX Γ ad A s σ H locs → lv_has ls 3 [(0, .ref (ad (n + 1) 1)), (1, .int x1), (2, .int x2)] → f3_openTicksOfDay_b5 n fu x1 x2 σ = some r → W p l e (rmz 1 22) s m args below meth c H locs 0 0 (QI SX Γ ad A below args s r σ) (F0 m 5 ls []) := by
    intro fu
    induction fu with
    | zero => intro x1 x2 H locs ls hP hl hF; exact nofu hF
    | succ fu ih =>
      intro x1 x2 H locs ls hP hl hF
      rw [f3_openTicksOfDay_b5] at hF
      refine r_iload_n cx dX3_openTicksOfDay_5 (lv_at hl 2 rfl) ?_
      refine r_bipush cx 67 dX3_openTicksOfDay_6 (by decide) ?_
      refine r_icmp_gt cx 28 dX3_openTicksOfDay_8 (by decide) hF (fun hF => ?_) (fun hF => ?_)
      · refine r_iload_n cx dX3_openTicksOfDay_28 (lv_at hl 1 rfl) ?_
        exact r_iret cx hP hr hk dX3_openTicksOfDay_29 (prF hF)
      · refine r_aload_n cx dX3_openTicksOfDay_11 (lv_at hl 0 rfl) ?_
        refine r_iload_n cx dX3_openTicksOfDay_12 (lv_at hl 2 rfl) ?_
        obtain ⟨v2, hc, hF⟩ := bnd_some hF
        refine r_callVi cx hP (As := [.int x2]) (w3_isOpenIn l Γ ad A n hn x2 σ v2 hc) mw3_25 ⟨Nat.le_of_ble_eq_true rfl, Nat.le_of_ble_eq_true rfl⟩ (dXg hn (by decide)) rfl rfl rfl (Nat.le_of_ble_eq_true rfl) hl.1 ⟨Nat.zero_le _, Nat.zero_le _⟩ dX3_openTicksOfDay_13 (fun H locs hP => ?_)
        refine r_if_eq cx 22 dX3_openTicksOfDay_16 (by decide) hF (fun hF => ?_) (fun hF => ?_)
        · exact b22 (f3_openTicksOfDay_b5 n fu) ih x1 x2 _ _ _ hP (lv_sub hl [0, 1, 2] rfl) hF
        · refine r_iinc cx (k := 1) (w := 1) (fun v3 => [(1, .int v3), (0, .ref (ad (n + 1) 1)), (2, .int x2)]) dX3_openTicksOfDay_19 hl rfl (by decide) (by decide) hF (fun _ => rfl) (fun v3 ls hF hl => ?_)
          exact b22 (f3_openTicksOfDay_b5 n fu) ih v3 x2 _ _ _ hP (lv_sub hl [1, 0, 2] rfl) hF
  refine r_iconst cx 0 dX3_openTicksOfDay_0 (by decide) ?_
  refine r_istore_n cx [(1, .int 0), (0, .ref (ad (n + 1) 1))] dX3_openTicksOfDay_1 hl (by decide) rfl (fun ls hl => ?_)
  refine r_bipush cx 32 dX3_openTicksOfDay_2 (by decide) ?_
  refine r_istore_n cx [(2, .int 32), (1, .int 0), (0, .ref (ad (n + 1) 1))] dX3_openTicksOfDay_4 hl (by decide) rfl (fun ls hl => ?_)
  exact b5 FU 0 32 _ _ _ hP (lv_sub hl [2, 1, 0] rfl) hF
set_option maxHeartbeats 4000000 in
set_option maxRecDepth 100000 in
theorem w11_setPeacocks (l : Launch) (hst : l.stackTraces = false) (Γ : Wc) (ad : Nat → Nat → Nat) (A : Nat → Prop) (p1 : Int32) (p2 : Int32) (σ : Sig) (q : Xe) (hF : f11_setPeacocks p1 p2 σ = some q) : MXi l SX Γ ad A yX11_setPeacocks cX11_setPeacocks 3 (some .int) 7 112 2 [.ref (ad 0 0), .int p1, .int p2] σ q := by
  refine MXi.of (by decide) (Nat.le_of_ble_eq_true rfl) ?_
  intro p e s m args below meth c ls cx hnt hr hk hP hl
  have hl : lv_has ls 3 [(0, .ref (ad 0 0)), (1, .int p1), (2, .int p2)] := hl
  rw [f11_setPeacocks] at hF
  refine r_iload_n cx dX11_setPeacocks_0 (lv_at hl 1 rfl) ?_
  refine r_iconst cx 0 dX11_setPeacocks_1 (by decide) ?_
  refine r_bipush cx 95 dX11_setPeacocks_2 (by decide) ?_
  refine x_callSv cx hP hnt hk (As := [.int p1, .int 0, .int 95]) hF (fun z hz => w11_requireRange l hst Γ ad A p1 0 95 σ z hz) mw11_69 ⟨Nat.le_of_ble_eq_true rfl, Nat.le_of_ble_eq_true rfl⟩ rfl (Nat.le_of_ble_eq_true rfl) hl.1 ⟨Nat.le_of_ble_eq_true rfl, Nat.le_of_ble_eq_true rfl⟩ ⟨Nat.le_of_ble_eq_true rfl, Nat.le_of_ble_eq_true rfl⟩ dX11_setPeacocks_4 (fun v1 s2 H locs hP hF => ?_)
  refine r_iload_n cx dX11_setPeacocks_7 (lv_at hl 2 rfl) ?_
  refine r_iload_n cx dX11_setPeacocks_8 (lv_at hl 1 rfl) ?_
  refine r_bipush cx 95 dX11_setPeacocks_9 (by decide) ?_
  refine x_callSv cx hP hnt hk (As := [.int p2, .int p1, .int 95]) hF (fun z hz => w11_requireRange l hst Γ ad A p2 p1 95 s2 z hz) mw11_69 ⟨Nat.le_of_ble_eq_true rfl, Nat.le_of_ble_eq_true rfl⟩ rfl (Nat.le_of_ble_eq_true rfl) hl.1 ⟨Nat.le_of_ble_eq_true rfl, Nat.le_of_ble_eq_true rfl⟩ ⟨Nat.le_of_ble_eq_true rfl, Nat.le_of_ble_eq_true rfl⟩ dX11_setPeacocks_11 (fun v3 s4 H locs hP hF => ?_)
  refine r_aload_n cx dX11_setPeacocks_14 (lv_at hl 0 rfl) ?_
  refine gf11_22 cx hP dX11_setPeacocks_15 ?_
  refine r_aload_n cx dX11_setPeacocks_18 (lv_at hl 0 rfl) ?_
  refine gf11_12 cx hP dX11_setPeacocks_19 ?_
  obtain ⟨s5, hc, hF⟩ := bnd_some hF
  refine r_callVv cx hP (As := [.ref (ad (8 + 1) 0)]) (w5_remember l Γ ad A 8 (by decide : 8 < 11) s4 s5 hc) mw11_76 ⟨Nat.le_of_ble_eq_true rfl, Nat.le_of_ble_eq_true rfl⟩ (dXr (by decide)) rfl rfl rfl (Nat.le_of_ble_eq_true rfl) hl.1 ⟨Nat.le_of_ble_eq_true rfl, Nat.le_of_ble_eq_true rfl⟩ dX11_setPeacocks_22 (fun H locs hP => ?_)
  refine r_aload_n cx dX11_setPeacocks_25 (lv_at hl 0 rfl) ?_
  refine gf11_12 cx hP dX11_setPeacocks_26 ?_
  refine gf11_122 cx hP (by decide : 8 < 11) dX11_setPeacocks_29 ?_
  refine r_iload_n cx dX11_setPeacocks_32 (lv_at hl 1 rfl) ?_
  refine r_iload_n cx dX11_setPeacocks_33 (lv_at hl 2 rfl) ?_
  obtain ⟨s6, hc, hF⟩ := bnd_some hF
  refine r_callVv cx hP (As := [.int p1, .int p2]) (w3_letPeacocksWalk l Γ ad A 8 (by decide : 8 < 11) p1 p2 s5 s6 hc) mw11_126 ⟨Nat.le_of_ble_eq_true rfl, Nat.le_of_ble_eq_true rfl⟩ (dXg (by decide : 8 < 11) (by decide)) rfl rfl rfl (Nat.le_of_ble_eq_true rfl) hl.1 ⟨Nat.le_of_ble_eq_true rfl, Nat.le_of_ble_eq_true rfl⟩ dX11_setPeacocks_34 (fun H locs hP => ?_)
  refine r_aload_n cx dX11_setPeacocks_37 (lv_at hl 0 rfl) ?_
  refine gf11_12 cx hP dX11_setPeacocks_38 ?_
  refine gf11_122 cx hP (by decide : 8 < 11) dX11_setPeacocks_41 ?_
  obtain ⟨v7, hc, hF⟩ := bnd_some hF
  refine r_callVi cx hP (As := []) (w3_openTicksOfDay l Γ ad A 8 (by decide : 8 < 11) s6 v7 hc) mw11_132 ⟨Nat.le_of_ble_eq_true rfl, Nat.le_of_ble_eq_true rfl⟩ (dXg (by decide : 8 < 11) (by decide)) rfl rfl rfl (Nat.le_of_ble_eq_true rfl) hl.1 ⟨Nat.le_of_ble_eq_true rfl, Nat.le_of_ble_eq_true rfl⟩ dX11_setPeacocks_44 (fun H locs hP => ?_)
  exact x_iret cx hP hr hk ⟨Nat.le_of_ble_eq_true rfl, Nat.le_of_ble_eq_true rfl⟩ dX11_setPeacocks_47 hF
set_option maxHeartbeats 4000000 in
set_option maxRecDepth 100000 in
theorem w11_setPause (l : Launch) (hst : l.stackTraces = false) (Γ : Wc) (ad : Nat → Nat → Nat) (A : Nat → Prop) (p1 : Int32) (σ : Sig) (q : Xe) (hF : f11_setPause p1 σ = some q) : MXi l SX Γ ad A yX11_setPause cX11_setPause 3 (some .int) 7 112 1 [.ref (ad 0 0), .int p1] σ q := by
  refine MXi.of (by decide) (Nat.le_of_ble_eq_true rfl) ?_
  intro p e s m args below meth c ls cx hnt hr hk hP hl
  have hl : lv_has ls 3 [(0, .ref (ad 0 0)), (1, .int p1)] := hl
  rw [f11_setPause] at hF
  refine r_iload_n cx dX11_setPause_0 (lv_at hl 1 rfl) ?_
  refine r_iconst cx 0 dX11_setPause_1 (by decide) ?_
  refine r_bipush cx 8 dX11_setPause_2 (by decide) ?_
  refine x_callSv cx hP hnt hk (As := [.int p1, .int 0, .int 8]) hF (fun z hz => w11_requireRange l hst Γ ad A p1 0 8 σ z hz) mw11_69 ⟨Nat.le_of_ble_eq_true rfl, Nat.le_of_ble_eq_true rfl⟩ rfl (Nat.le_of_ble_eq_true rfl) hl.1 ⟨Nat.le_of_ble_eq_true rfl, Nat.le_of_ble_eq_true rfl⟩ ⟨Nat.le_of_ble_eq_true rfl, Nat.le_of_ble_eq_true rfl⟩ dX11_setPause_4 (fun v1 s2 H locs hP hF => ?_)
  refine r_aload_n cx dX11_setPause_7 (lv_at hl 0 rfl) ?_
  refine gf11_22 cx hP dX11_setPause_8 ?_
  refine r_aload_n cx dX11_setPause_11 (lv_at hl 0 rfl) ?_
  refine gf11_12 cx hP dX11_setPause_12 ?_
  obtain ⟨s3, hc, hF⟩ := bnd_some hF
  refine r_callVv cx hP (As := [.ref (ad (8 + 1) 0)]) (w5_remember l Γ ad A 8 (by decide : 8 < 11) s2 s3 hc) mw11_76 ⟨Nat.le_of_ble_eq_true rfl, Nat.le_of_ble_eq_true rfl⟩ (dXr (by decide)) rfl rfl rfl (Nat.le_of_ble_eq_true rfl) hl.1 ⟨Nat.le_of_ble_eq_true rfl, Nat.le_of_ble_eq_true rfl⟩ dX11_setPause_15 (fun H locs hP => ?_)
  refine r_aload_n cx dX11_setPause_18 (lv_at hl 0 rfl) ?_
  refine gf11_12 cx hP dX11_setPause_19 ?_
  refine gf11_136 cx hP (by decide : 8 < 11) dX11_setPause_22 hF (fun v4 hF => ?_)
  refine r_istore_n cx [(2, .int v4), (0, .ref (ad 0 0)), (1, .int p1)] dX11_setPause_25 hl (by decide) rfl (fun ls hl => ?_)
  refine r_aload_n cx dX11_setPause_26 (lv_at hl 1 rfl) ?_
  refine gf11_12 cx hP dX11_setPause_27 ?_
  refine r_iload_n cx dX11_setPause_30 (lv_at hl 2 rfl) ?_
  refine pf11_136 cx hP (by decide : 8 < 11) dX11_setPause_31 hF (fun s5 H locs hP hF => ?_)
  refine r_iload_n cx dX11_setPause_34 (lv_at hl 0 rfl) ?_
  exact x_iret cx hP hr hk ⟨Nat.le_of_ble_eq_true rfl, Nat.le_of_ble_eq_true rfl⟩ dX11_setPause_35 hF
set_option maxHeartbeats 4000000 in
set_option maxRecDepth 100000 in
theorem w11_requireSetOfScents (l : Launch) (hst : l.stackTraces = false) (Γ : Wc) (ad : Nat → Nat → Nat) (A : Nat → Prop) (p1 : Int32) (σ : Sig) (q : Xe) (hF : f11_requireSetOfScents p1 σ = some q) : MXv l SX Γ ad A yX11_requireSetOfScents cX11_requireSetOfScents 2 7 112 1 [.ref (ad 0 0), .int p1] σ q := by
  refine MXv.of (by decide) (Nat.le_of_ble_eq_true rfl) ?_
  intro p e s m args below meth c ls cx hnt hr hk hP hl
  have hl : lv_has ls 2 [(0, .ref (ad 0 0)), (1, .int p1)] := hl
  rw [f11_requireSetOfScents] at hF
  refine r_iload_n cx dX11_requireSetOfScents_0 (lv_at hl 1 rfl) ?_
  refine r_iconst cx 1 dX11_requireSetOfScents_1 (by decide) ?_
  refine r_aload_n cx dX11_requireSetOfScents_2 (lv_at hl 0 rfl) ?_
  refine gf11_12 cx hP dX11_requireSetOfScents_3 ?_
  refine gf11_91 cx hP (by decide : 8 < 11) dX11_requireSetOfScents_6 ?_
  obtain ⟨v1, hc, hF⟩ := bnd_some hF
  refine r_callVi cx hP (As := []) (w10_setOfAllScents l Γ ad A 8 (by decide : 8 < 11) σ v1 hc) mw11_378 ⟨Nat.le_of_ble_eq_true rfl, Nat.le_of_ble_eq_true rfl⟩ (dXg (by decide : 8 < 11) (by decide)) rfl rfl rfl (Nat.le_of_ble_eq_true rfl) hl.1 ⟨Nat.le_of_ble_eq_true rfl, Nat.le_of_ble_eq_true rfl⟩ dX11_requireSetOfScents_9 (fun H locs hP => ?_)
  refine x_callSv cx hP hnt hk (As := [.int p1, .int 1, .int v1]) hF (fun z hz => w11_requireRange l hst Γ ad A p1 1 v1 σ z hz) mw11_69 ⟨Nat.le_of_ble_eq_true rfl, Nat.le_of_ble_eq_true rfl⟩ rfl (Nat.le_of_ble_eq_true rfl) hl.1 ⟨Nat.le_of_ble_eq_true rfl, Nat.le_of_ble_eq_true rfl⟩ ⟨Nat.le_of_ble_eq_true rfl, Nat.le_of_ble_eq_true rfl⟩ dX11_requireSetOfScents_12 (fun v2 s3 H locs hP hF => ?_)
  exact x_vret cx hP hr hk ⟨Nat.le_of_ble_eq_true rfl, Nat.le_of_ble_eq_true rfl⟩ dX11_requireSetOfScents_15 hF
set_option maxHeartbeats 4000000 in
set_option maxRecDepth 100000 in
theorem w11_sell (l : Launch) (hst : l.stackTraces = false) (Γ : Wc) (ad : Nat → Nat → Nat) (A : Nat → Prop) (p1 : Int32) (p2 : Int32) (p3 : Int32) (p4 : Int32) (σ : Sig) (q : Xe) (hF : f11_sell p1 p2 p3 p4 σ = some q) : MXi l SX Γ ad A yX11_sell cX11_sell 5 (some .int) 8 133 5 [.ref (ad 0 0), .int p1, .int p2, .int p3, .int p4] σ q := by
  refine MXi.of (by decide) (Nat.le_of_ble_eq_true rfl) ?_
  intro p e s m args below meth c ls cx hnt hr hk hP hl
  have hl : lv_has ls 5 [(0, .ref (ad 0 0)), (1, .int p1), (2, .int p2), (3, .int p3), (4, .int p4)] := hl
  rw [f11_sell] at hF
  refine r_aload_n cx dX11_sell_0 (lv_at hl 0 rfl) ?_
  refine r_iload_n cx dX11_sell_1 (lv_at hl 1 rfl) ?_
  refine x_callVv cx hP hnt hk (As := [.int p1]) hF (fun z hz => w11_requireSetOfScents l hst Γ ad A p1 σ z hz) mw11_139 ⟨Nat.le_of_ble_eq_true rfl, Nat.le_of_ble_eq_true rfl⟩ (dXr (by decide)) rfl rfl rfl (Nat.le_of_ble_eq_true rfl) hl.1 ⟨Nat.le_of_ble_eq_true rfl, Nat.le_of_ble_eq_true rfl⟩ ⟨Nat.le_of_ble_eq_true rfl, Nat.le_of_ble_eq_true rfl⟩ dX11_sell_2 (fun v1 s2 H locs hP hF => ?_)
  refine r_iload_n cx dX11_sell_5 (lv_at hl 2 rfl) ?_
  refine r_aload_n cx dX11_sell_6 (lv_at hl 0 rfl) ?_
  refine gf11_12 cx hP dX11_sell_7 ?_
  refine gf11_122 cx hP (by decide : 8 < 11) dX11_sell_10 ?_
  obtain ⟨v3, hc, hF⟩ := bnd_some hF
  refine r_callVi cx hP (As := []) (w3_today l Γ ad A 8 (by decide : 8 < 11) s2 v3 hc) mw11_142 ⟨Nat.le_of_ble_eq_true rfl, Nat.le_of_ble_eq_true rfl⟩ (dXg (by decide : 8 < 11) (by decide)) rfl rfl rfl (Nat.le_of_ble_eq_true rfl) hl.1 ⟨Nat.le_of_ble_eq_true rfl, Nat.le_of_ble_eq_true rfl⟩ dX11_sell_13 (fun H locs hP => ?_)
  refine r_bipush cx 99 dX11_sell_16 (by decide) ?_
  refine x_callSv cx hP hnt hk (As := [.int p2, .int v3, .int 99]) hF (fun z hz => w11_requireRange l hst Γ ad A p2 v3 99 s2 z hz) mw11_69 ⟨Nat.le_of_ble_eq_true rfl, Nat.le_of_ble_eq_true rfl⟩ rfl (Nat.le_of_ble_eq_true rfl) hl.1 ⟨Nat.le_of_ble_eq_true rfl, Nat.le_of_ble_eq_true rfl⟩ ⟨Nat.le_of_ble_eq_true rfl, Nat.le_of_ble_eq_true rfl⟩ dX11_sell_18 (fun v4 s5 H locs hP hF => ?_)
  refine r_iload_n cx dX11_sell_21 (lv_at hl 3 rfl) ?_
  refine r_iconst cx 1 dX11_sell_22 (by decide) ?_
  refine r_bipush cx 14 dX11_sell_23 (by decide) ?_
  refine x_callSv cx hP hnt hk (As := [.int p3, .int 1, .int 14]) hF (fun z hz => w11_requireRange l hst Γ ad A p3 1 14 s5 z hz) mw11_69 ⟨Nat.le_of_ble_eq_true rfl, Nat.le_of_ble_eq_true rfl⟩ rfl (Nat.le_of_ble_eq_true rfl) hl.1 ⟨Nat.le_of_ble_eq_true rfl, Nat.le_of_ble_eq_true rfl⟩ ⟨Nat.le_of_ble_eq_true rfl, Nat.le_of_ble_eq_true rfl⟩ dX11_sell_25 (fun v6 s7 H locs hP hF => ?_)
  refine r_iload cx dX11_sell_28 (lv_at hl 4 rfl) ?_
  refine r_iconst cx 0 dX11_sell_30 (by decide) ?_
  refine r_iconst cx 1 dX11_sell_31 (by decide) ?_
  refine x_callSv cx hP hnt hk (As := [.int p4, .int 0, .int 1]) hF (fun z hz => w11_requireRange l hst Γ ad A p4 0 1 s7 z hz) mw11_69 ⟨Nat.le_of_ble_eq_true rfl, Nat.le_of_ble_eq_true rfl⟩ rfl (Nat.le_of_ble_eq_true rfl) hl.1 ⟨Nat.le_of_ble_eq_true rfl, Nat.le_of_ble_eq_true rfl⟩ ⟨Nat.le_of_ble_eq_true rfl, Nat.le_of_ble_eq_true rfl⟩ dX11_sell_32 (fun v8 s9 H locs hP hF => ?_)
  refine r_aload_n cx dX11_sell_35 (lv_at hl 0 rfl) ?_
  refine gf11_12 cx hP dX11_sell_36 ?_
  obtain ⟨v10, hc, hF⟩ := bnd_some hF
  refine r_callVi cx hP (As := []) (w4_canSellPass l Γ ad A 8 (by decide : 8 < 11) s9 v10 hc) mw11_145 ⟨Nat.le_of_ble_eq_true rfl, Nat.le_of_ble_eq_true rfl⟩ (dXg (by decide : 8 < 11) (by decide)) rfl rfl rfl (Nat.le_of_ble_eq_true rfl) hl.1 ⟨Nat.le_of_ble_eq_true rfl, Nat.le_of_ble_eq_true rfl⟩ dX11_sell_39 (fun H locs hP => ?_)
  refine x_callSv cx hP hnt hk (As := [.int v10]) hF (fun z hz => w11_requireState l hst Γ ad A v10 s9 z hz) mw11_114 ⟨Nat.le_of_ble_eq_true rfl, Nat.le_of_ble_eq_true rfl⟩ rfl (Nat.le_of_ble_eq_true rfl) hl.1 ⟨Nat.le_of_ble_eq_true rfl, Nat.le_of_ble_eq_true rfl⟩ ⟨Nat.le_of_ble_eq_true rfl, Nat.le_of_ble_eq_true rfl⟩ dX11_sell_42 (fun v11 s12 H locs hP hF => ?_)
  refine r_aload_n cx dX11_sell_45 (lv_at hl 0 rfl) ?_
  refine gf11_22 cx hP dX11_sell_46 ?_
  refine r_aload_n cx dX11_sell_49 (lv_at hl 0 rfl) ?_
  refine gf11_12 cx hP dX11_sell_50 ?_
  obtain ⟨s13, hc, hF⟩ := bnd_some hF
  refine r_callVv cx hP (As := [.ref (ad (8 + 1) 0)]) (w5_remember l Γ ad A 8 (by decide : 8 < 11) s12 s13 hc) mw11_76 ⟨Nat.le_of_ble_eq_true rfl, Nat.le_of_ble_eq_true rfl⟩ (dXr (by decide)) rfl rfl rfl (Nat.le_of_ble_eq_true rfl) hl.1 ⟨Nat.le_of_ble_eq_true rfl, Nat.le_of_ble_eq_true rfl⟩ dX11_sell_53 (fun H locs hP => ?_)
  refine r_aload_n cx dX11_sell_56 (lv_at hl 0 rfl) ?_
  refine gf11_12 cx hP dX11_sell_57 ?_
  refine r_iload_n cx dX11_sell_60 (lv_at hl 1 rfl) ?_
  refine r_iload_n cx dX11_sell_61 (lv_at hl 2 rfl) ?_
  refine r_iload_n cx dX11_sell_62 (lv_at hl 3 rfl) ?_
  refine r_iload cx dX11_sell_63 (lv_at hl 4 rfl) ?_
  obtain ⟨v14, s15, hc, hF⟩ := bns_some hF
  refine r_callVi cx hP (As := [.int p1, .int p2, .int p3, .int p4]) (w4_sellPass l Γ ad A 8 (by decide : 8 < 11) p1 p2 p3 p4 s13 v14 s15 hc) mw11_148 ⟨Nat.le_of_ble_eq_true rfl, Nat.le_of_ble_eq_true rfl⟩ (dXg (by decide : 8 < 11) (by decide)) rfl rfl rfl (Nat.le_of_ble_eq_true rfl) hl.1 ⟨Nat.le_of_ble_eq_true rfl, Nat.le_of_ble_eq_true rfl⟩ dX11_sell_65 (fun H locs hP => ?_)
  exact x_iret cx hP hr hk ⟨Nat.le_of_ble_eq_true rfl, Nat.le_of_ble_eq_true rfl⟩ dX11_sell_68 hF
set_option maxHeartbeats 4000000 in
set_option maxRecDepth 100000 in
theorem w7_has (l : Launch) (Γ : Wc) (ad : Nat → Nat → Nat) (A : Nat → Prop) (n : Nat) (hn : n < 11) (p1 : Int32) (σ : Sig) (r : Int32) (hF : f7_has n p1 σ = some r) : MI l SX Γ ad A yX7_has cX7_has 2 (some .boolean) 0 0 [.ref (ad (n + 1) 4), .int p1] σ r σ := by
  refine MI.of (by decide) (Nat.le_of_ble_eq_true rfl) ?_
  intro p e s m args below meth c ls cx hr hk hP hl
  have hl : lv_has ls 2 [(0, .ref (ad (n + 1) 4)), (1, .int p1)] := hl
  rw [f7_has] at hF
  refine r_iload_n cx dX7_has_0 (lv_at hl 1 rfl) ?_
  refine r_if_lt cx 16 dX7_has_1 (by decide) hF (fun hF => ?_) (fun hF => ?_)
  · refine r_iconst cx 0 dX7_has_16 (by decide) ?_
    exact r_zret cx hP hr hk (by decide) dX7_has_17 (prF hF)
  · refine r_iload_n cx dX7_has_4 (lv_at hl 1 rfl) ?_
    refine r_aload_n cx dX7_has_5 (lv_at hl 0 rfl) ?_
    refine gf7_49 cx hP hn dX7_has_6 hF (fun v1 hF => ?_)
    refine r_icmp_ge cx 16 dX7_has_9 (by decide) hF (fun hF => ?_) (fun hF => ?_)
    · refine r_iconst cx 0 dX7_has_16 (by decide) ?_
      exact r_zret cx hP hr hk (by decide) dX7_has_17 (prF hF)
    · refine r_iconst cx 1 dX7_has_12 (by decide) ?_
      refine r_goto cx 17 dX7_has_13 (by decide) ?_
      exact r_zret cx hP hr hk (by decide) dX7_has_17 (prF hF)
set_option maxHeartbeats 4000000 in
set_option maxRecDepth 100000 in
theorem w11_requirePass (l : Launch) (hst : l.stackTraces = false) (Γ : Wc) (ad : Nat → Nat → Nat) (A : Nat → Prop) (p1 : Int32) (σ : Sig) (q : Xe) (hF : f11_requirePass p1 σ = some q) : MXv l SX Γ ad A yX11_requirePass cX11_requirePass 2 6 90 1 [.ref (ad 0 0), .int p1] σ q := by
  refine MXv.of (by decide) (Nat.le_of_ble_eq_true rfl) ?_
  intro p e s m args below meth c ls cx hnt hr hk hP hl
  have hl : lv_has ls 2 [(0, .ref (ad 0 0)), (1, .int p1)] := hl
  rw [f11_requirePass] at hF
  refine r_aload_n cx dX11_requirePass_0 (lv_at hl 0 rfl) ?_
  refine gf11_12 cx hP dX11_requirePass_1 ?_
  refine gf11_79 cx hP (by decide : 8 < 11) dX11_requirePass_4 ?_
  refine r_iload_n cx dX11_requirePass_7 (lv_at hl 1 rfl) ?_
  obtain ⟨v1, hc, hF⟩ := bnd_some hF
  refine r_callVi cx hP (As := [.int p1]) (w7_has l Γ ad A 8 (by decide : 8 < 11) p1 σ v1 hc) mw11_372 ⟨Nat.le_of_ble_eq_true rfl, Nat.le_of_ble_eq_true rfl⟩ (dXg (by decide : 8 < 11) (by decide)) rfl rfl rfl (Nat.le_of_ble_eq_true rfl) hl.1 ⟨Nat.le_of_ble_eq_true rfl, Nat.le_of_ble_eq_true rfl⟩ dX11_requirePass_8 (fun H locs hP => ?_)
  refine r_if_ne cx 25 dX11_requirePass_11 (by decide) hF (fun hF => ?_) (fun hF => ?_)
  · exact x_vret cx hP hr hk ⟨Nat.le_of_ble_eq_true rfl, Nat.le_of_ble_eq_true rfl⟩ dX11_requirePass_25 hF
  · exact x_throwW cx hP hst hnt hk (text := "no such pass") (k := 2) (by decide) tw_ioobe (by decide +kernel) hl.1 dX11_requirePass_14 dX11_requirePass_17 dX11_requirePass_18 dX11_requirePass_21 dX11_requirePass_24 ⟨Nat.le_of_ble_eq_true rfl, Nat.le_of_ble_eq_true rfl⟩ ⟨Nat.le_of_ble_eq_true rfl, Nat.le_of_ble_eq_true rfl⟩ ⟨Nat.le_of_ble_eq_true rfl, Nat.le_of_ble_eq_true rfl⟩ hF
set_option maxHeartbeats 4000000 in
set_option maxRecDepth 100000 in
theorem w7_finalDay (l : Launch) (Γ : Wc) (ad : Nat → Nat → Nat) (A : Nat → Prop) (n : Nat) (hn : n < 11) (p1 : Int32) (σ : Sig) (r : Int32) (hF : f7_finalDay n p1 σ = some r) : MI l SX Γ ad A yX7_finalDay cX7_finalDay 2 (some .int) 0 0 [.ref (ad (n + 1) 4), .int p1] σ r σ := by
  refine MI.of (by decide) (Nat.le_of_ble_eq_true rfl) ?_
  intro p e s m args below meth c ls cx hr hk hP hl
  have hl : lv_has ls 2 [(0, .ref (ad (n + 1) 4)), (1, .int p1)] := hl
  rw [f7_finalDay] at hF
  refine r_aload_n cx dX7_finalDay_0 (lv_at hl 0 rfl) ?_
  refine gf7_15 cx hP hn dX7_finalDay_1 ?_
  refine r_iload_n cx dX7_finalDay_4 (lv_at hl 1 rfl) ?_
  refine r_iald cx hP (dXg hn (by decide)) rfl dX7_finalDay_5 hF (fun v1 hF => ?_)
  refine r_aload_n cx dX7_finalDay_6 (lv_at hl 0 rfl) ?_
  refine gf7_18 cx hP hn dX7_finalDay_7 ?_
  refine r_iload_n cx dX7_finalDay_10 (lv_at hl 1 rfl) ?_
  refine r_iald cx hP (dXg hn (by decide)) rfl dX7_finalDay_11 hF (fun v2 hF => ?_)
  refine r_iadd cx dX7_finalDay_12 hF (fun v3 hF => ?_)
  refine r_iconst cx 1 dX7_finalDay_13 (by decide) ?_
  refine r_isub cx dX7_finalDay_14 hF (fun v4 hF => ?_)
  exact r_iret cx hP hr hk dX7_finalDay_15 (prF hF)
set_option maxHeartbeats 4000000 in
set_option maxRecDepth 100000 in
theorem w4_canChangePass (l : Launch) (Γ : Wc) (ad : Nat → Nat → Nat) (A : Nat → Prop) (n : Nat) (hn : n < 11) (p1 : Int32) (σ : Sig) (r : Int32) (hF : f4_canChangePass n p1 σ = some r) : MI l SX Γ ad A yX4_canChangePass cX4_canChangePass 2 (some .boolean) 1 21 [.ref (ad (n + 1) 0), .int p1] σ r σ := by
  refine MI.of (by decide) (Nat.le_of_ble_eq_true rfl) ?_
  intro p e s m args below meth c ls cx hr hk hP hl
  have hl : lv_has ls 2 [(0, .ref (ad (n + 1) 0)), (1, .int p1)] := hl
  rw [f4_canChangePass] at hF
  refine r_aload_n cx dX4_canChangePass_0 (lv_at hl 0 rfl) ?_
  refine gf4_35 cx hP hn dX4_canChangePass_1 ?_
  refine gf4_123 cx hP hn dX4_canChangePass_4 ?_
  refine r_iload_n cx dX4_canChangePass_7 (lv_at hl 1 rfl) ?_
  refine r_zald cx hP (dXg hn (by decide)) rfl dX4_canChangePass_8 hF (fun v1 hF => ?_)
  refine r_if_ne cx 34 dX4_canChangePass_9 (by decide) hF (fun hF => ?_) (fun hF => ?_)
  · refine r_iconst cx 0 dX4_canChangePass_34 (by decide) ?_
    exact r_zret cx hP hr hk (by decide) dX4_canChangePass_35 (prF hF)
  · refine r_aload_n cx dX4_canChangePass_12 (lv_at hl 0 rfl) ?_
    refine gf4_35 cx hP hn dX4_canChangePass_13 ?_
    refine r_iload_n cx dX4_canChangePass_16 (lv_at hl 1 rfl) ?_
    obtain ⟨v2, hc, hF⟩ := bnd_some hF
    refine r_callVi cx hP (As := [.int p1]) (w7_finalDay l Γ ad A n hn p1 σ v2 hc) mw4_127 ⟨Nat.le_of_ble_eq_true rfl, Nat.le_of_ble_eq_true rfl⟩ (dXg hn (by decide)) rfl rfl rfl (Nat.le_of_ble_eq_true rfl) hl.1 ⟨Nat.zero_le _, Nat.zero_le _⟩ dX4_canChangePass_17 (fun H locs hP => ?_)
    refine r_aload_n cx dX4_canChangePass_20 (lv_at hl 0 rfl) ?_
    refine gf4_12 cx hP hn dX4_canChangePass_21 ?_
    obtain ⟨v3, hc, hF⟩ := bnd_some hF
    refine r_callVi cx hP (As := []) (w3_today l Γ ad A n hn σ v3 hc) mw4_86 ⟨Nat.le_of_ble_eq_true rfl, Nat.le_of_ble_eq_true rfl⟩ (dXg hn (by decide)) rfl rfl rfl (Nat.le_of_ble_eq_true rfl) hl.1 ⟨Nat.zero_le _, Nat.zero_le _⟩ dX4_canChangePass_24 (fun H locs hP => ?_)
    refine r_icmp_lt cx 34 dX4_canChangePass_27 (by decide) hF (fun hF => ?_) (fun hF => ?_)
    · refine r_iconst cx 0 dX4_canChangePass_34 (by decide) ?_
      exact r_zret cx hP hr hk (by decide) dX4_canChangePass_35 (prF hF)
    · refine r_iconst cx 1 dX4_canChangePass_30 (by decide) ?_
      refine r_goto cx 35 dX4_canChangePass_31 (by decide) ?_
      exact r_zret cx hP hr hk (by decide) dX4_canChangePass_35 (prF hF)
set_option maxHeartbeats 4000000 in
set_option maxRecDepth 100000 in
theorem w4_payNewPrice (l : Launch) (Γ : Wc) (ad : Nat → Nat → Nat) (A : Nat → Prop) (n : Nat) (hn : n < 11) (p1 : Int32) (σ : Sig) (r : Int32) (σ1 : Sig) (hF : f4_payNewPrice n p1 σ = some (r, σ1)) : MI l SX Γ ad A yX4_payNewPrice cX4_payNewPrice 4 (some .int) 2 45 [.ref (ad (n + 1) 0), .int p1] σ r σ1 := by
  refine MI.of (by decide) (Nat.le_of_ble_eq_true rfl) ?_
  intro p e s m args below meth c ls cx hr hk hP hl
  have hl : lv_has ls 4 [(0, .ref (ad (n + 1) 0)), (1, .int p1)] := hl
  rw [f4_payNewPrice] at hF
  refine r_aload_n cx dX4_payNewPrice_0 (lv_at hl 0 rfl) ?_
  refine gf4_21 cx hP hn dX4_payNewPrice_1 ?_
  refine r_aload_n cx dX4_payNewPrice_4 (lv_at hl 0 rfl) ?_
  refine gf4_35 cx hP hn dX4_payNewPrice_5 ?_
  refine gf4_130 cx hP hn dX4_payNewPrice_8 ?_
  refine r_iload_n cx dX4_payNewPrice_11 (lv_at hl 1 rfl) ?_
  refine r_iald cx hP (dXg hn (by decide)) rfl dX4_payNewPrice_12 hF (fun v1 hF => ?_)
  refine r_aload_n cx dX4_payNewPrice_13 (lv_at hl 0 rfl) ?_
  refine gf4_35 cx hP hn dX4_payNewPrice_14 ?_
  refine gf4_133 cx hP hn dX4_payNewPrice_17 ?_
  refine r_iload_n cx dX4_payNewPrice_20 (lv_at hl 1 rfl) ?_
  refine r_iald cx hP (dXg hn (by decide)) rfl dX4_payNewPrice_21 hF (fun v2 hF => ?_)
  refine r_aload_n cx dX4_payNewPrice_22 (lv_at hl 0 rfl) ?_
  refine gf4_35 cx hP hn dX4_payNewPrice_23 ?_
  refine gf4_136 cx hP hn dX4_payNewPrice_26 ?_
  refine r_iload_n cx dX4_payNewPrice_29 (lv_at hl 1 rfl) ?_
  refine r_iald cx hP (dXg hn (by decide)) rfl dX4_payNewPrice_30 hF (fun v3 hF => ?_)
  obtain ⟨v4, hc, hF⟩ := bnd_some hF
  refine r_callVi cx hP (As := [.int v1, .int v2, .int v3]) (w10_priceOfPass l Γ ad A n hn v1 v2 v3 σ v4 hc) mw4_105 ⟨Nat.le_of_ble_eq_true rfl, Nat.le_of_ble_eq_true rfl⟩ (dXg hn (by decide)) rfl rfl rfl (Nat.le_of_ble_eq_true rfl) hl.1 ⟨Nat.zero_le _, Nat.zero_le _⟩ dX4_payNewPrice_31 (fun H locs hP => ?_)
  refine r_istore_n cx [(2, .int v4), (0, .ref (ad (n + 1) 0)), (1, .int p1)] dX4_payNewPrice_34 hl (by decide) rfl (fun ls hl => ?_)
  refine r_iconst cx 0 dX4_payNewPrice_35 (by decide) ?_
  refine r_iload_n cx dX4_payNewPrice_36 (lv_at hl 0 rfl) ?_
  refine r_aload_n cx dX4_payNewPrice_37 (lv_at hl 1 rfl) ?_
  refine gf4_35 cx hP hn dX4_payNewPrice_38 ?_
  refine gf4_139 cx hP hn dX4_payNewPrice_41 ?_
  refine r_iload_n cx dX4_payNewPrice_44 (lv_at hl 2 rfl) ?_
  refine r_iald cx hP (dXg hn (by decide)) rfl dX4_payNewPrice_45 hF (fun v5 hF => ?_)
  refine r_isub cx dX4_payNewPrice_46 hF (fun v6 hF => ?_)
  refine r_mmax cx mw4_142 ⟨Nat.le_of_ble_eq_true rfl, Nat.le_of_ble_eq_true rfl⟩ ⟨Nat.zero_le _, Nat.zero_le _⟩ hl.1 dX4_payNewPrice_47 hF (fun v7 hF => ?_)
  refine r_istore_n cx [(3, .int v7), (2, .int v4), (0, .ref (ad (n + 1) 0)), (1, .int p1)] dX4_payNewPrice_50 hl (by decide) rfl (fun ls hl => ?_)
  refine r_aload_n cx dX4_payNewPrice_51 (lv_at hl 2 rfl) ?_
  refine gf4_35 cx hP hn dX4_payNewPrice_52 ?_
  refine gf4_139 cx hP hn dX4_payNewPrice_55 ?_
  refine r_iload_n cx dX4_payNewPrice_58 (lv_at hl 3 rfl) ?_
  refine r_dup2 cx dX4_payNewPrice_59 rfl rfl ?_
  refine r_iald cx hP (dXg hn (by decide)) rfl dX4_payNewPrice_60 hF (fun v8 hF => ?_)
  refine r_iload_n cx dX4_payNewPrice_61 (lv_at hl 0 rfl) ?_
  refine r_iadd cx dX4_payNewPrice_62 hF (fun v9 hF => ?_)
  refine r_iast cx hP (dXg hn (by decide)) (fun _ => rfl) dX4_payNewPrice_63 hF (fun s10 H locs hP hF => ?_)
  refine r_aload_n cx dX4_payNewPrice_64 (lv_at hl 2 rfl) ?_
  refine gf4_49 cx hP hn dX4_payNewPrice_65 ?_
  refine r_dup cx dX4_payNewPrice_68 rfl ?_
  refine gf4_120 cx hP hn dX4_payNewPrice_69 hF (fun v11 hF => ?_)
  refine r_iload_n cx dX4_payNewPrice_72 (lv_at hl 0 rfl) ?_
  refine r_iadd cx dX4_payNewPrice_73 hF (fun v12 hF => ?_)
  refine pf4_120 cx hP hn dX4_payNewPrice_74 hF (fun s13 H locs hP hF => ?_)
  refine r_iload_n cx dX4_payNewPrice_77 (lv_at hl 0 rfl) ?_
  exact r_iret cx hP hr hk dX4_payNewPrice_78 hF
set_option maxHeartbeats 4000000 in
set_option maxRecDepth 100000 in
theorem w11_extend (l : Launch) (hst : l.stackTraces = false) (Γ : Wc) (ad : Nat → Nat → Nat) (A : Nat → Prop) (p1 : Int32) (p2 : Int32) (σ : Sig) (q : Xe) (hF : f11_extend p1 p2 σ = some q) : MXi l SX Γ ad A yX11_extend cX11_extend 3 (some .int) 7 112 4 [.ref (ad 0 0), .int p1, .int p2] σ q := by
  refine MXi.of (by decide) (Nat.le_of_ble_eq_true rfl) ?_
  intro p e s m args below meth c ls cx hnt hr hk hP hl
  have hl : lv_has ls 3 [(0, .ref (ad 0 0)), (1, .int p1), (2, .int p2)] := hl
  rw [f11_extend] at hF
  generalize hH0 : s.heap = H0 at hP ⊢
  generalize ([] : List Loc) = locs0 at hP ⊢
  clear hH0
  have b47 : ∀ (x1 : Int32) (x2 : Int32) (t0 : Int32) (σ : Sig) (H : Heap) (locs : List Loc) (ls : Array Slot), PS SX Γ ad A s σ H locs → lv_has ls 3 [(0, .ref (ad 0 0)), (1, .int x1), (2, .int x2)] → f11_extend_b47 x1 x2 t0 σ = some q → W p l e (rmx 7 112 4) s m args below meth c H locs 3 18 (vx_MQ below (QXi SX Γ ad A q) (XXe SX Γ ad A q) args s 4 (6 * 4) A) (F0 m 47 ls [.int t0]) := by
    intro x1 x2 t0 σ H locs ls hP hl hF
    rw [f11_extend_b47] at hF
    refine x_callSv cx hP hnt hk (As := [.int t0]) hF (fun z hz => w11_requireState l hst Γ ad A t0 σ z hz) mw11_114 ⟨Nat.le_of_ble_eq_true rfl, Nat.le_of_ble_eq_true rfl⟩ rfl (Nat.le_of_ble_eq_true rfl) hl.1 ⟨Nat.le_of_ble_eq_true rfl, Nat.le_of_ble_eq_true rfl⟩ ⟨Nat.le_of_ble_eq_true rfl, Nat.le_of_ble_eq_true rfl⟩ dX11_extend_47 (fun v1 s2 H locs hP hF => ?_)
    refine r_aload_n cx dX11_extend_50 (lv_at hl 0 rfl) ?_
    refine gf11_22 cx hP dX11_extend_51 ?_
    refine r_aload_n cx dX11_extend_54 (lv_at hl 0 rfl) ?_
    refine gf11_12 cx hP dX11_extend_55 ?_
    obtain ⟨s3, hc, hF⟩ := bnd_some hF
    refine r_callVv cx hP (As := [.ref (ad (8 + 1) 0)]) (w5_remember l Γ ad A 8 (by decide : 8 < 11) s2 s3 hc) mw11_76 ⟨Nat.le_of_ble_eq_true rfl, Nat.le_of_ble_eq_true rfl⟩ (dXr (by decide)) rfl rfl rfl (Nat.le_of_ble_eq_true rfl) hl.1 ⟨Nat.le_of_ble_eq_true rfl, Nat.le_of_ble_eq_true rfl⟩ dX11_extend_58 (fun H locs hP => ?_)
    refine r_aload_n cx dX11_extend_61 (lv_at hl 0 rfl) ?_
    refine gf11_12 cx hP dX11_extend_62 ?_
    refine gf11_79 cx hP (by decide : 8 < 11) dX11_extend_65 ?_
    refine gf11_158 cx hP (by decide : 8 < 11) dX11_extend_68 ?_
    refine r_iload_n cx dX11_extend_71 (lv_at hl 1 rfl) ?_
    refine r_dup2 cx dX11_extend_72 rfl rfl ?_
    refine r_iald cx hP (dXg (by decide : 8 < 11) (by decide)) rfl dX11_extend_73 hF (fun v4 hF => ?_)
    refine r_iload_n cx dX11_extend_74 (lv_at hl 2 rfl) ?_
    refine r_iadd cx dX11_extend_75 hF (fun v5 hF => ?_)
    refine r_iast cx hP (dXg (by decide : 8 < 11) (by decide)) (fun _ => rfl) dX11_extend_76 hF (fun s6 H locs hP hF => ?_)
    refine r_aload_n cx dX11_extend_77 (lv_at hl 0 rfl) ?_
    refine gf11_12 cx hP dX11_extend_78 ?_
    refine r_iload_n cx dX11_extend_81 (lv_at hl 1 rfl) ?_
    obtain ⟨v7, s8, hc, hF⟩ := bns_some hF
    refine r_callVi cx hP (As := [.int x1]) (w4_payNewPrice l Γ ad A 8 (by decide : 8 < 11) x1 s6 v7 s8 hc) mw11_161 ⟨Nat.le_of_ble_eq_true rfl, Nat.le_of_ble_eq_true rfl⟩ (dXg (by decide : 8 < 11) (by decide)) rfl rfl rfl (Nat.le_of_ble_eq_true rfl) hl.1 ⟨Nat.le_of_ble_eq_true rfl, Nat.le_of_ble_eq_true rfl⟩ dX11_extend_82 (fun H locs hP => ?_)
    exact x_iret cx hP hr hk ⟨Nat.le_of_ble_eq_true rfl, Nat.le_of_ble_eq_true rfl⟩ dX11_extend_85 hF
  refine r_aload_n cx dX11_extend_0 (lv_at hl 0 rfl) ?_
  refine r_iload_n cx dX11_extend_1 (lv_at hl 1 rfl) ?_
  refine x_callVv cx hP hnt hk (As := [.int p1]) hF (fun z hz => w11_requirePass l hst Γ ad A p1 σ z hz) mw11_151 ⟨Nat.le_of_ble_eq_true rfl, Nat.le_of_ble_eq_true rfl⟩ (dXr (by decide)) rfl rfl rfl (Nat.le_of_ble_eq_true rfl) hl.1 ⟨Nat.le_of_ble_eq_true rfl, Nat.le_of_ble_eq_true rfl⟩ ⟨Nat.le_of_ble_eq_true rfl, Nat.le_of_ble_eq_true rfl⟩ dX11_extend_2 (fun v9 s10 H locs hP hF => ?_)
  refine r_iload_n cx dX11_extend_5 (lv_at hl 2 rfl) ?_
  refine r_iconst cx 1 dX11_extend_6 (by decide) ?_
  refine r_bipush cx 13 dX11_extend_7 (by decide) ?_
  refine x_callSv cx hP hnt hk (As := [.int p2, .int 1, .int 13]) hF (fun z hz => w11_requireRange l hst Γ ad A p2 1 13 s10 z hz) mw11_69 ⟨Nat.le_of_ble_eq_true rfl, Nat.le_of_ble_eq_true rfl⟩ rfl (Nat.le_of_ble_eq_true rfl) hl.1 ⟨Nat.le_of_ble_eq_true rfl, Nat.le_of_ble_eq_true rfl⟩ ⟨Nat.le_of_ble_eq_true rfl, Nat.le_of_ble_eq_true rfl⟩ dX11_extend_9 (fun v11 s12 H locs hP hF => ?_)
  refine r_aload_n cx dX11_extend_12 (lv_at hl 0 rfl) ?_
  refine gf11_12 cx hP dX11_extend_13 ?_
  refine r_iload_n cx dX11_extend_16 (lv_at hl 1 rfl) ?_
  obtain ⟨v13, hc, hF⟩ := bnd_some hF
  refine r_callVi cx hP (As := [.int p1]) (w4_canChangePass l Γ ad A 8 (by decide : 8 < 11) p1 s12 v13 hc) mw11_154 ⟨Nat.le_of_ble_eq_true rfl, Nat.le_of_ble_eq_true rfl⟩ (dXg (by decide : 8 < 11) (by decide)) rfl rfl rfl (Nat.le_of_ble_eq_true rfl) hl.1 ⟨Nat.le_of_ble_eq_true rfl, Nat.le_of_ble_eq_true rfl⟩ dX11_extend_17 (fun H locs hP => ?_)
  refine x_callSv cx hP hnt hk (As := [.int v13]) hF (fun z hz => w11_requireState l hst Γ ad A v13 s12 z hz) mw11_114 ⟨Nat.le_of_ble_eq_true rfl, Nat.le_of_ble_eq_true rfl⟩ rfl (Nat.le_of_ble_eq_true rfl) hl.1 ⟨Nat.le_of_ble_eq_true rfl, Nat.le_of_ble_eq_true rfl⟩ ⟨Nat.le_of_ble_eq_true rfl, Nat.le_of_ble_eq_true rfl⟩ dX11_extend_20 (fun v14 s15 H locs hP hF => ?_)
  refine r_aload_n cx dX11_extend_23 (lv_at hl 0 rfl) ?_
  refine gf11_12 cx hP dX11_extend_24 ?_
  refine gf11_79 cx hP (by decide : 8 < 11) dX11_extend_27 ?_
  refine gf11_158 cx hP (by decide : 8 < 11) dX11_extend_30 ?_
  refine r_iload_n cx dX11_extend_33 (lv_at hl 1 rfl) ?_
  refine r_iald cx hP (dXg (by decide : 8 < 11) (by decide)) rfl dX11_extend_34 hF (fun v16 hF => ?_)
  refine r_iload_n cx dX11_extend_35 (lv_at hl 2 rfl) ?_
  refine r_iadd cx dX11_extend_36 hF (fun v17 hF => ?_)
  refine r_bipush cx 14 dX11_extend_37 (by decide) ?_
  refine r_icmp_gt cx 46 dX11_extend_39 (by decide) hF (fun hF => ?_) (fun hF => ?_)
  · refine r_iconst cx 0 dX11_extend_46 (by decide) ?_
    exact b47 p1 p2 0 s15 _ _ _ hP (lv_sub hl [0, 1, 2] rfl) hF
  · refine r_iconst cx 1 dX11_extend_42 (by decide) ?_
    refine r_goto cx 47 dX11_extend_43 (by decide) ?_
    exact b47 p1 p2 1 s15 _ _ _ hP (lv_sub hl [0, 1, 2] rfl) hF
set_option maxHeartbeats 4000000 in
set_option maxRecDepth 100000 in
theorem w11_addScent (l : Launch) (hst : l.stackTraces = false) (Γ : Wc) (ad : Nat → Nat → Nat) (A : Nat → Prop) (p1 : Int32) (p2 : Int32) (σ : Sig) (q : Xe) (hF : f11_addScent p1 p2 σ = some q) : MXi l SX Γ ad A yX11_addScent cX11_addScent 3 (some .int) 7 111 4 [.ref (ad 0 0), .int p1, .int p2] σ q := by
  refine MXi.of (by decide) (Nat.le_of_ble_eq_true rfl) ?_
  intro p e s m args below meth c ls cx hnt hr hk hP hl
  have hl : lv_has ls 3 [(0, .ref (ad 0 0)), (1, .int p1), (2, .int p2)] := hl
  rw [f11_addScent] at hF
  generalize hH0 : s.heap = H0 at hP ⊢
  generalize ([] : List Loc) = locs0 at hP ⊢
  clear hH0
  have b41 : ∀ (x1 : Int32) (x2 : Int32) (t0 : Int32) (σ : Sig) (H : Heap) (locs : List Loc) (ls : Array Slot), PS SX Γ ad A s σ H locs → lv_has ls 3 [(0, .ref (ad 0 0)), (1, .int x1), (2, .int x2)] → f11_addScent_b41 x1 x2 t0 σ = some q → W p l e (rmx 7 111 4) s m args below meth c H locs 3 18 (vx_MQ below (QXi SX Γ ad A q) (XXe SX Γ ad A q) args s 4 (6 * 4) A) (F0 m 41 ls [.int t0]) := by
    intro x1 x2 t0 σ H locs ls hP hl hF
    rw [f11_addScent_b41] at hF
    refine x_callSv cx hP hnt hk (As := [.int t0]) hF (fun z hz => w11_requireState l hst Γ ad A t0 σ z hz) mw11_114 ⟨Nat.le_of_ble_eq_true rfl, Nat.le_of_ble_eq_true rfl⟩ rfl (Nat.le_of_ble_eq_true rfl) hl.1 ⟨Nat.le_of_ble_eq_true rfl, Nat.le_of_ble_eq_true rfl⟩ ⟨Nat.le_of_ble_eq_true rfl, Nat.le_of_ble_eq_true rfl⟩ dX11_addScent_41 (fun v1 s2 H locs hP hF => ?_)
    refine r_aload_n cx dX11_addScent_44 (lv_at hl 0 rfl) ?_
    refine gf11_22 cx hP dX11_addScent_45 ?_
    refine r_aload_n cx dX11_addScent_48 (lv_at hl 0 rfl) ?_
    refine gf11_12 cx hP dX11_addScent_49 ?_
    obtain ⟨s3, hc, hF⟩ := bnd_some hF
    refine r_callVv cx hP (As := [.ref (ad (8 + 1) 0)]) (w5_remember l Γ ad A 8 (by decide : 8 < 11) s2 s3 hc) mw11_76 ⟨Nat.le_of_ble_eq_true rfl, Nat.le_of_ble_eq_true rfl⟩ (dXr (by decide)) rfl rfl rfl (Nat.le_of_ble_eq_true rfl) hl.1 ⟨Nat.le_of_ble_eq_true rfl, Nat.le_of_ble_eq_true rfl⟩ dX11_addScent_52 (fun H locs hP => ?_)
    refine r_aload_n cx dX11_addScent_55 (lv_at hl 0 rfl) ?_
    refine gf11_12 cx hP dX11_addScent_56 ?_
    refine gf11_79 cx hP (by decide : 8 < 11) dX11_addScent_59 ?_
    refine gf11_169 cx hP (by decide : 8 < 11) dX11_addScent_62 ?_
    refine r_iload_n cx dX11_addScent_65 (lv_at hl 1 rfl) ?_
    refine r_dup2 cx dX11_addScent_66 rfl rfl ?_
    refine r_iald cx hP (dXg (by decide : 8 < 11) (by decide)) rfl dX11_addScent_67 hF (fun v4 hF => ?_)
    refine r_iconst cx 1 dX11_addScent_68 (by decide) ?_
    refine r_iload_n cx dX11_addScent_69 (lv_at hl 2 rfl) ?_
    refine r_ishl cx dX11_addScent_70 hF (fun v5 hF => ?_)
    refine r_ior cx dX11_addScent_71 hF (fun v6 hF => ?_)
    refine r_iast cx hP (dXg (by decide : 8 < 11) (by decide)) (fun _ => rfl) dX11_addScent_72 hF (fun s7 H locs hP hF => ?_)
    refine r_aload_n cx dX11_addScent_73 (lv_at hl 0 rfl) ?_
    refine gf11_12 cx hP dX11_addScent_74 ?_
    refine r_iload_n cx dX11_addScent_77 (lv_at hl 1 rfl) ?_
    obtain ⟨v8, s9, hc, hF⟩ := bns_some hF
    refine r_callVi cx hP (As := [.int x1]) (w4_payNewPrice l Γ ad A 8 (by decide : 8 < 11) x1 s7 v8 s9 hc) mw11_161 ⟨Nat.le_of_ble_eq_true rfl, Nat.le_of_ble_eq_true rfl⟩ (dXg (by decide : 8 < 11) (by decide)) rfl rfl rfl (Nat.le_of_ble_eq_true rfl) hl.1 ⟨Nat.le_of_ble_eq_true rfl, Nat.le_of_ble_eq_true rfl⟩ dX11_addScent_78 (fun H locs hP => ?_)
    exact x_iret cx hP hr hk ⟨Nat.le_of_ble_eq_true rfl, Nat.le_of_ble_eq_true rfl⟩ dX11_addScent_81 hF
  refine r_aload_n cx dX11_addScent_0 (lv_at hl 0 rfl) ?_
  refine r_iload_n cx dX11_addScent_1 (lv_at hl 1 rfl) ?_
  refine x_callVv cx hP hnt hk (As := [.int p1]) hF (fun z hz => w11_requirePass l hst Γ ad A p1 σ z hz) mw11_151 ⟨Nat.le_of_ble_eq_true rfl, Nat.le_of_ble_eq_true rfl⟩ (dXr (by decide)) rfl rfl rfl (Nat.le_of_ble_eq_true rfl) hl.1 ⟨Nat.le_of_ble_eq_true rfl, Nat.le_of_ble_eq_true rfl⟩ ⟨Nat.le_of_ble_eq_true rfl, Nat.le_of_ble_eq_true rfl⟩ dX11_addScent_2 (fun v10 s11 H locs hP hF => ?_)
  refine r_aload_n cx dX11_addScent_5 (lv_at hl 0 rfl) ?_
  refine r_iload_n cx dX11_addScent_6 (lv_at hl 2 rfl) ?_
  refine x_callVv cx hP hnt hk (As := [.int p2]) hF (fun z hz => w11_requireScent l hst Γ ad A p2 s11 z hz) mw11_88 ⟨Nat.le_of_ble_eq_true rfl, Nat.le_of_ble_eq_true rfl⟩ (dXr (by decide)) rfl rfl rfl (Nat.le_of_ble_eq_true rfl) hl.1 ⟨Nat.le_of_ble_eq_true rfl, Nat.le_of_ble_eq_true rfl⟩ ⟨Nat.le_of_ble_eq_true rfl, Nat.le_of_ble_eq_true rfl⟩ dX11_addScent_7 (fun v12 s13 H locs hP hF => ?_)
  refine r_aload_n cx dX11_addScent_10 (lv_at hl 0 rfl) ?_
  refine gf11_12 cx hP dX11_addScent_11 ?_
  refine r_iload_n cx dX11_addScent_14 (lv_at hl 1 rfl) ?_
  obtain ⟨v14, hc, hF⟩ := bnd_some hF
  refine r_callVi cx hP (As := [.int p1]) (w4_canChangePass l Γ ad A 8 (by decide : 8 < 11) p1 s13 v14 hc) mw11_154 ⟨Nat.le_of_ble_eq_true rfl, Nat.le_of_ble_eq_true rfl⟩ (dXg (by decide : 8 < 11) (by decide)) rfl rfl rfl (Nat.le_of_ble_eq_true rfl) hl.1 ⟨Nat.le_of_ble_eq_true rfl, Nat.le_of_ble_eq_true rfl⟩ dX11_addScent_15 (fun H locs hP => ?_)
  refine x_callSv cx hP hnt hk (As := [.int v14]) hF (fun z hz => w11_requireState l hst Γ ad A v14 s13 z hz) mw11_114 ⟨Nat.le_of_ble_eq_true rfl, Nat.le_of_ble_eq_true rfl⟩ rfl (Nat.le_of_ble_eq_true rfl) hl.1 ⟨Nat.le_of_ble_eq_true rfl, Nat.le_of_ble_eq_true rfl⟩ ⟨Nat.le_of_ble_eq_true rfl, Nat.le_of_ble_eq_true rfl⟩ dX11_addScent_18 (fun v15 s16 H locs hP hF => ?_)
  refine r_aload_n cx dX11_addScent_21 (lv_at hl 0 rfl) ?_
  refine gf11_12 cx hP dX11_addScent_22 ?_
  refine gf11_79 cx hP (by decide : 8 < 11) dX11_addScent_25 ?_
  refine r_iload_n cx dX11_addScent_28 (lv_at hl 1 rfl) ?_
  refine r_iload_n cx dX11_addScent_29 (lv_at hl 2 rfl) ?_
  obtain ⟨v17, hc, hF⟩ := bnd_some hF
  refine r_callVi cx hP (As := [.int p1, .int p2]) (w7_hasScent l Γ ad A 8 (by decide : 8 < 11) p1 p2 s16 v17 hc) mw11_165 ⟨Nat.le_of_ble_eq_true rfl, Nat.le_of_ble_eq_true rfl⟩ (dXg (by decide : 8 < 11) (by decide)) rfl rfl rfl (Nat.le_of_ble_eq_true rfl) hl.1 ⟨Nat.le_of_ble_eq_true rfl, Nat.le_of_ble_eq_true rfl⟩ dX11_addScent_30 (fun H locs hP => ?_)
  refine r_if_ne cx 40 dX11_addScent_33 (by decide) hF (fun hF => ?_) (fun hF => ?_)
  · refine r_iconst cx 0 dX11_addScent_40 (by decide) ?_
    exact b41 p1 p2 0 s16 _ _ _ hP (lv_sub hl [0, 1, 2] rfl) hF
  · refine r_iconst cx 1 dX11_addScent_36 (by decide) ?_
    refine r_goto cx 41 dX11_addScent_37 (by decide) ?_
    exact b41 p1 p2 1 s16 _ _ _ hP (lv_sub hl [0, 1, 2] rfl) hF
set_option maxHeartbeats 4000000 in
set_option maxRecDepth 100000 in
theorem w11_reportLost (l : Launch) (hst : l.stackTraces = false) (Γ : Wc) (ad : Nat → Nat → Nat) (A : Nat → Prop) (p1 : Int32) (σ : Sig) (q : Xe) (hF : f11_reportLost p1 σ = some q) : MXi l SX Γ ad A yX11_reportLost cX11_reportLost 2 (some .int) 7 111 2 [.ref (ad 0 0), .int p1] σ q := by
  refine MXi.of (by decide) (Nat.le_of_ble_eq_true rfl) ?_
  intro p e s m args below meth c ls cx hnt hr hk hP hl
  have hl : lv_has ls 2 [(0, .ref (ad 0 0)), (1, .int p1)] := hl
  rw [f11_reportLost] at hF
  refine r_aload_n cx dX11_reportLost_0 (lv_at hl 0 rfl) ?_
  refine r_iload_n cx dX11_reportLost_1 (lv_at hl 1 rfl) ?_
  refine x_callVv cx hP hnt hk (As := [.int p1]) hF (fun z hz => w11_requirePass l hst Γ ad A p1 σ z hz) mw11_151 ⟨Nat.le_of_ble_eq_true rfl, Nat.le_of_ble_eq_true rfl⟩ (dXr (by decide)) rfl rfl rfl (Nat.le_of_ble_eq_true rfl) hl.1 ⟨Nat.le_of_ble_eq_true rfl, Nat.le_of_ble_eq_true rfl⟩ ⟨Nat.le_of_ble_eq_true rfl, Nat.le_of_ble_eq_true rfl⟩ dX11_reportLost_2 (fun v1 s2 H locs hP hF => ?_)
  refine r_aload_n cx dX11_reportLost_5 (lv_at hl 0 rfl) ?_
  refine gf11_12 cx hP dX11_reportLost_6 ?_
  refine gf11_79 cx hP (by decide : 8 < 11) dX11_reportLost_9 ?_
  refine r_iload_n cx dX11_reportLost_12 (lv_at hl 1 rfl) ?_
  obtain ⟨v3, hc, hF⟩ := bnd_some hF
  refine r_callVi cx hP (As := [.int p1]) (w7_hasCard l Γ ad A 8 (by decide : 8 < 11) p1 s2 v3 hc) mw11_172 ⟨Nat.le_of_ble_eq_true rfl, Nat.le_of_ble_eq_true rfl⟩ (dXg (by decide : 8 < 11) (by decide)) rfl rfl rfl (Nat.le_of_ble_eq_true rfl) hl.1 ⟨Nat.le_of_ble_eq_true rfl, Nat.le_of_ble_eq_true rfl⟩ dX11_reportLost_13 (fun H locs hP => ?_)
  refine x_callSv cx hP hnt hk (As := [.int v3]) hF (fun z hz => w11_requireState l hst Γ ad A v3 s2 z hz) mw11_114 ⟨Nat.le_of_ble_eq_true rfl, Nat.le_of_ble_eq_true rfl⟩ rfl (Nat.le_of_ble_eq_true rfl) hl.1 ⟨Nat.le_of_ble_eq_true rfl, Nat.le_of_ble_eq_true rfl⟩ ⟨Nat.le_of_ble_eq_true rfl, Nat.le_of_ble_eq_true rfl⟩ dX11_reportLost_16 (fun v4 s5 H locs hP hF => ?_)
  refine r_aload_n cx dX11_reportLost_19 (lv_at hl 0 rfl) ?_
  refine gf11_22 cx hP dX11_reportLost_20 ?_
  refine r_aload_n cx dX11_reportLost_23 (lv_at hl 0 rfl) ?_
  refine gf11_12 cx hP dX11_reportLost_24 ?_
  obtain ⟨s6, hc, hF⟩ := bnd_some hF
  refine r_callVv cx hP (As := [.ref (ad (8 + 1) 0)]) (w5_remember l Γ ad A 8 (by decide : 8 < 11) s5 s6 hc) mw11_76 ⟨Nat.le_of_ble_eq_true rfl, Nat.le_of_ble_eq_true rfl⟩ (dXr (by decide)) rfl rfl rfl (Nat.le_of_ble_eq_true rfl) hl.1 ⟨Nat.le_of_ble_eq_true rfl, Nat.le_of_ble_eq_true rfl⟩ dX11_reportLost_27 (fun H locs hP => ?_)
  refine r_aload_n cx dX11_reportLost_30 (lv_at hl 0 rfl) ?_
  refine gf11_12 cx hP dX11_reportLost_31 ?_
  refine r_iload_n cx dX11_reportLost_34 (lv_at hl 1 rfl) ?_
  obtain ⟨v7, s8, hc, hF⟩ := bns_some hF
  refine r_callVi cx hP (As := [.int p1]) (w4_blockCardOf l Γ ad A 8 (by decide : 8 < 11) p1 s6 v7 s8 hc) mw11_175 ⟨Nat.le_of_ble_eq_true rfl, Nat.le_of_ble_eq_true rfl⟩ (dXg (by decide : 8 < 11) (by decide)) rfl rfl rfl (Nat.le_of_ble_eq_true rfl) hl.1 ⟨Nat.le_of_ble_eq_true rfl, Nat.le_of_ble_eq_true rfl⟩ dX11_reportLost_35 (fun H locs hP => ?_)
  exact x_iret cx hP hr hk ⟨Nat.le_of_ble_eq_true rfl, Nat.le_of_ble_eq_true rfl⟩ dX11_reportLost_38 hF
set_option maxHeartbeats 4000000 in
set_option maxRecDepth 100000 in
theorem w11_replaceCard (l : Launch) (hst : l.stackTraces = false) (Γ : Wc) (ad : Nat → Nat → Nat) (A : Nat → Prop) (p1 : Int32) (σ : Sig) (q : Xe) (hF : f11_replaceCard p1 σ = some q) : MXi l SX Γ ad A yX11_replaceCard cX11_replaceCard 2 (some .int) 7 111 2 [.ref (ad 0 0), .int p1] σ q := by
  refine MXi.of (by decide) (Nat.le_of_ble_eq_true rfl) ?_
  intro p e s m args below meth c ls cx hnt hr hk hP hl
  have hl : lv_has ls 2 [(0, .ref (ad 0 0)), (1, .int p1)] := hl
  rw [f11_replaceCard] at hF
  refine r_aload_n cx dX11_replaceCard_0 (lv_at hl 0 rfl) ?_
  refine r_iload_n cx dX11_replaceCard_1 (lv_at hl 1 rfl) ?_
  refine x_callVv cx hP hnt hk (As := [.int p1]) hF (fun z hz => w11_requirePass l hst Γ ad A p1 σ z hz) mw11_151 ⟨Nat.le_of_ble_eq_true rfl, Nat.le_of_ble_eq_true rfl⟩ (dXr (by decide)) rfl rfl rfl (Nat.le_of_ble_eq_true rfl) hl.1 ⟨Nat.le_of_ble_eq_true rfl, Nat.le_of_ble_eq_true rfl⟩ ⟨Nat.le_of_ble_eq_true rfl, Nat.le_of_ble_eq_true rfl⟩ dX11_replaceCard_2 (fun v1 s2 H locs hP hF => ?_)
  refine r_aload_n cx dX11_replaceCard_5 (lv_at hl 0 rfl) ?_
  refine gf11_12 cx hP dX11_replaceCard_6 ?_
  refine r_iload_n cx dX11_replaceCard_9 (lv_at hl 1 rfl) ?_
  obtain ⟨v3, hc, hF⟩ := bnd_some hF
  refine r_callVi cx hP (As := [.int p1]) (w4_canReplaceCard l Γ ad A 8 (by decide : 8 < 11) p1 s2 v3 hc) mw11_178 ⟨Nat.le_of_ble_eq_true rfl, Nat.le_of_ble_eq_true rfl⟩ (dXg (by decide : 8 < 11) (by decide)) rfl rfl rfl (Nat.le_of_ble_eq_true rfl) hl.1 ⟨Nat.le_of_ble_eq_true rfl, Nat.le_of_ble_eq_true rfl⟩ dX11_replaceCard_10 (fun H locs hP => ?_)
  refine x_callSv cx hP hnt hk (As := [.int v3]) hF (fun z hz => w11_requireState l hst Γ ad A v3 s2 z hz) mw11_114 ⟨Nat.le_of_ble_eq_true rfl, Nat.le_of_ble_eq_true rfl⟩ rfl (Nat.le_of_ble_eq_true rfl) hl.1 ⟨Nat.le_of_ble_eq_true rfl, Nat.le_of_ble_eq_true rfl⟩ ⟨Nat.le_of_ble_eq_true rfl, Nat.le_of_ble_eq_true rfl⟩ dX11_replaceCard_13 (fun v4 s5 H locs hP hF => ?_)
  refine r_aload_n cx dX11_replaceCard_16 (lv_at hl 0 rfl) ?_
  refine gf11_22 cx hP dX11_replaceCard_17 ?_
  refine r_aload_n cx dX11_replaceCard_20 (lv_at hl 0 rfl) ?_
  refine gf11_12 cx hP dX11_replaceCard_21 ?_
  obtain ⟨s6, hc, hF⟩ := bnd_some hF
  refine r_callVv cx hP (As := [.ref (ad (8 + 1) 0)]) (w5_remember l Γ ad A 8 (by decide : 8 < 11) s5 s6 hc) mw11_76 ⟨Nat.le_of_ble_eq_true rfl, Nat.le_of_ble_eq_true rfl⟩ (dXr (by decide)) rfl rfl rfl (Nat.le_of_ble_eq_true rfl) hl.1 ⟨Nat.le_of_ble_eq_true rfl, Nat.le_of_ble_eq_true rfl⟩ dX11_replaceCard_24 (fun H locs hP => ?_)
  refine r_aload_n cx dX11_replaceCard_27 (lv_at hl 0 rfl) ?_
  refine gf11_12 cx hP dX11_replaceCard_28 ?_
  refine r_iload_n cx dX11_replaceCard_31 (lv_at hl 1 rfl) ?_
  obtain ⟨v7, s8, hc, hF⟩ := bns_some hF
  refine r_callVi cx hP (As := [.int p1]) (w4_issueNewCard l Γ ad A 8 (by decide : 8 < 11) p1 s6 v7 s8 hc) mw11_181 ⟨Nat.le_of_ble_eq_true rfl, Nat.le_of_ble_eq_true rfl⟩ (dXg (by decide : 8 < 11) (by decide)) rfl rfl rfl (Nat.le_of_ble_eq_true rfl) hl.1 ⟨Nat.le_of_ble_eq_true rfl, Nat.le_of_ble_eq_true rfl⟩ dX11_replaceCard_32 (fun H locs hP => ?_)
  exact x_iret cx hP hr hk ⟨Nat.le_of_ble_eq_true rfl, Nat.le_of_ble_eq_true rfl⟩ dX11_replaceCard_35 hF
set_option maxHeartbeats 4000000 in
set_option maxRecDepth 100000 in
theorem w11_refundPass (l : Launch) (hst : l.stackTraces = false) (Γ : Wc) (ad : Nat → Nat → Nat) (A : Nat → Prop) (p1 : Int32) (σ : Sig) (q : Xe) (hF : f11_refundPass p1 σ = some q) : MXi l SX Γ ad A yX11_refundPass cX11_refundPass 2 (some .int) 7 111 2 [.ref (ad 0 0), .int p1] σ q := by
  refine MXi.of (by decide) (Nat.le_of_ble_eq_true rfl) ?_
  intro p e s m args below meth c ls cx hnt hr hk hP hl
  have hl : lv_has ls 2 [(0, .ref (ad 0 0)), (1, .int p1)] := hl
  rw [f11_refundPass] at hF
  generalize hH0 : s.heap = H0 at hP ⊢
  generalize ([] : List Loc) = locs0 at hP ⊢
  clear hH0
  have b25 : ∀ (x1 : Int32) (t0 : Int32) (σ : Sig) (H : Heap) (locs : List Loc) (ls : Array Slot), PS SX Γ ad A s σ H locs → lv_has ls 2 [(0, .ref (ad 0 0)), (1, .int x1)] → f11_refundPass_b25 x1 t0 σ = some q → W p l e (rmx 7 111 2) s m args below meth c H locs 1 6 (vx_MQ below (QXi SX Γ ad A q) (XXe SX Γ ad A q) args s 2 (6 * 2) A) (F0 m 25 ls [.int t0]) := by
    intro x1 t0 σ H locs ls hP hl hF
    rw [f11_refundPass_b25] at hF
    refine x_callSv cx hP hnt hk (As := [.int t0]) hF (fun z hz => w11_requireState l hst Γ ad A t0 σ z hz) mw11_114 ⟨Nat.le_of_ble_eq_true rfl, Nat.le_of_ble_eq_true rfl⟩ rfl (Nat.le_of_ble_eq_true rfl) hl.1 ⟨Nat.le_of_ble_eq_true rfl, Nat.le_of_ble_eq_true rfl⟩ ⟨Nat.le_of_ble_eq_true rfl, Nat.le_of_ble_eq_true rfl⟩ dX11_refundPass_25 (fun v1 s2 H locs hP hF => ?_)
    refine r_aload_n cx dX11_refundPass_28 (lv_at hl 0 rfl) ?_
    refine gf11_22 cx hP dX11_refundPass_29 ?_
    refine r_aload_n cx dX11_refundPass_32 (lv_at hl 0 rfl) ?_
    refine gf11_12 cx hP dX11_refundPass_33 ?_
    obtain ⟨s3, hc, hF⟩ := bnd_some hF
    refine r_callVv cx hP (As := [.ref (ad (8 + 1) 0)]) (w5_remember l Γ ad A 8 (by decide : 8 < 11) s2 s3 hc) mw11_76 ⟨Nat.le_of_ble_eq_true rfl, Nat.le_of_ble_eq_true rfl⟩ (dXr (by decide)) rfl rfl rfl (Nat.le_of_ble_eq_true rfl) hl.1 ⟨Nat.le_of_ble_eq_true rfl, Nat.le_of_ble_eq_true rfl⟩ dX11_refundPass_36 (fun H locs hP => ?_)
    refine r_aload_n cx dX11_refundPass_39 (lv_at hl 0 rfl) ?_
    refine gf11_12 cx hP dX11_refundPass_40 ?_
    refine r_iload_n cx dX11_refundPass_43 (lv_at hl 1 rfl) ?_
    obtain ⟨v4, s5, hc, hF⟩ := bns_some hF
    refine r_callVi cx hP (As := [.int x1]) (w4_takeBackPass l Γ ad A 8 (by decide : 8 < 11) x1 s3 v4 s5 hc) mw11_188 ⟨Nat.le_of_ble_eq_true rfl, Nat.le_of_ble_eq_true rfl⟩ (dXg (by decide : 8 < 11) (by decide)) rfl rfl rfl (Nat.le_of_ble_eq_true rfl) hl.1 ⟨Nat.le_of_ble_eq_true rfl, Nat.le_of_ble_eq_true rfl⟩ dX11_refundPass_44 (fun H locs hP => ?_)
    exact x_iret cx hP hr hk ⟨Nat.le_of_ble_eq_true rfl, Nat.le_of_ble_eq_true rfl⟩ dX11_refundPass_47 hF
  refine r_aload_n cx dX11_refundPass_0 (lv_at hl 0 rfl) ?_
  refine r_iload_n cx dX11_refundPass_1 (lv_at hl 1 rfl) ?_
  refine x_callVv cx hP hnt hk (As := [.int p1]) hF (fun z hz => w11_requirePass l hst Γ ad A p1 σ z hz) mw11_151 ⟨Nat.le_of_ble_eq_true rfl, Nat.le_of_ble_eq_true rfl⟩ (dXr (by decide)) rfl rfl rfl (Nat.le_of_ble_eq_true rfl) hl.1 ⟨Nat.le_of_ble_eq_true rfl, Nat.le_of_ble_eq_true rfl⟩ ⟨Nat.le_of_ble_eq_true rfl, Nat.le_of_ble_eq_true rfl⟩ dX11_refundPass_2 (fun v6 s7 H locs hP hF => ?_)
  refine r_aload_n cx dX11_refundPass_5 (lv_at hl 0 rfl) ?_
  refine gf11_12 cx hP dX11_refundPass_6 ?_
  refine gf11_79 cx hP (by decide : 8 < 11) dX11_refundPass_9 ?_
  refine gf11_184 cx hP (by decide : 8 < 11) dX11_refundPass_12 ?_
  refine r_iload_n cx dX11_refundPass_15 (lv_at hl 1 rfl) ?_
  refine r_zald cx hP (dXg (by decide : 8 < 11) (by decide)) rfl dX11_refundPass_16 hF (fun v8 hF => ?_)
  refine r_if_ne cx 24 dX11_refundPass_17 (by decide) hF (fun hF => ?_) (fun hF => ?_)
  · refine r_iconst cx 0 dX11_refundPass_24 (by decide) ?_
    exact b25 p1 0 s7 _ _ _ hP (lv_sub hl [0, 1] rfl) hF
  · refine r_iconst cx 1 dX11_refundPass_20 (by decide) ?_
    refine r_goto cx 25 dX11_refundPass_21 (by decide) ?_
    exact b25 p1 1 s7 _ _ _ hP (lv_sub hl [0, 1] rfl) hF
set_option maxHeartbeats 4000000 in
set_option maxRecDepth 100000 in
theorem w11_requireCard (l : Launch) (hst : l.stackTraces = false) (Γ : Wc) (ad : Nat → Nat → Nat) (A : Nat → Prop) (p1 : Int32) (σ : Sig) (q : Xe) (hF : f11_requireCard p1 σ = some q) : MXv l SX Γ ad A yX11_requireCard cX11_requireCard 2 6 90 1 [.ref (ad 0 0), .int p1] σ q := by
  refine MXv.of (by decide) (Nat.le_of_ble_eq_true rfl) ?_
  intro p e s m args below meth c ls cx hnt hr hk hP hl
  have hl : lv_has ls 2 [(0, .ref (ad 0 0)), (1, .int p1)] := hl
  rw [f11_requireCard] at hF
  refine r_aload_n cx dX11_requireCard_0 (lv_at hl 0 rfl) ?_
  refine gf11_12 cx hP dX11_requireCard_1 ?_
  refine gf11_287 cx hP (by decide : 8 < 11) dX11_requireCard_4 ?_
  refine r_iload_n cx dX11_requireCard_7 (lv_at hl 1 rfl) ?_
  obtain ⟨v1, hc, hF⟩ := bnd_some hF
  refine r_callVi cx hP (As := [.int p1]) (w2_has l Γ ad A 8 (by decide : 8 < 11) p1 σ v1 hc) mw11_375 ⟨Nat.le_of_ble_eq_true rfl, Nat.le_of_ble_eq_true rfl⟩ (dXg (by decide : 8 < 11) (by decide)) rfl rfl rfl (Nat.le_of_ble_eq_true rfl) hl.1 ⟨Nat.le_of_ble_eq_true rfl, Nat.le_of_ble_eq_true rfl⟩ dX11_requireCard_8 (fun H locs hP => ?_)
  refine r_if_ne cx 25 dX11_requireCard_11 (by decide) hF (fun hF => ?_) (fun hF => ?_)
  · exact x_vret cx hP hr hk ⟨Nat.le_of_ble_eq_true rfl, Nat.le_of_ble_eq_true rfl⟩ dX11_requireCard_25 hF
  · exact x_throwW cx hP hst hnt hk (text := "no such card") (k := 2) (by decide) tw_ioobe (by decide +kernel) hl.1 dX11_requireCard_14 dX11_requireCard_17 dX11_requireCard_18 dX11_requireCard_21 dX11_requireCard_24 ⟨Nat.le_of_ble_eq_true rfl, Nat.le_of_ble_eq_true rfl⟩ ⟨Nat.le_of_ble_eq_true rfl, Nat.le_of_ble_eq_true rfl⟩ ⟨Nat.le_of_ble_eq_true rfl, Nat.le_of_ble_eq_true rfl⟩ hF
set_option maxHeartbeats 4000000 in
set_option maxRecDepth 100000 in
theorem w11_requireBed (l : Launch) (hst : l.stackTraces = false) (Γ : Wc) (ad : Nat → Nat → Nat) (A : Nat → Prop) (p1 : Int32) (σ : Sig) (q : Xe) (hF : f11_requireBed p1 σ = some q) : MXv l SX Γ ad A yX11_requireBed cX11_requireBed 2 6 90 1 [.ref (ad 0 0), .int p1] σ q := by
  refine MXv.of (by decide) (Nat.le_of_ble_eq_true rfl) ?_
  intro p e s m args below meth c ls cx hnt hr hk hP hl
  have hl : lv_has ls 2 [(0, .ref (ad 0 0)), (1, .int p1)] := hl
  rw [f11_requireBed] at hF
  refine r_aload_n cx dX11_requireBed_0 (lv_at hl 0 rfl) ?_
  refine gf11_12 cx hP dX11_requireBed_1 ?_
  refine gf11_104 cx hP (by decide : 8 < 11) dX11_requireBed_4 ?_
  refine r_iload_n cx dX11_requireBed_7 (lv_at hl 1 rfl) ?_
  obtain ⟨v1, hc, hF⟩ := bnd_some hF
  refine r_callVi cx hP (As := [.int p1]) (w0_has l Γ ad A 8 (by decide : 8 < 11) p1 σ v1 hc) mw11_369 ⟨Nat.le_of_ble_eq_true rfl, Nat.le_of_ble_eq_true rfl⟩ (dXg (by decide : 8 < 11) (by decide)) rfl rfl rfl (Nat.le_of_ble_eq_true rfl) hl.1 ⟨Nat.le_of_ble_eq_true rfl, Nat.le_of_ble_eq_true rfl⟩ dX11_requireBed_8 (fun H locs hP => ?_)
  refine r_if_ne cx 25 dX11_requireBed_11 (by decide) hF (fun hF => ?_) (fun hF => ?_)
  · exact x_vret cx hP hr hk ⟨Nat.le_of_ble_eq_true rfl, Nat.le_of_ble_eq_true rfl⟩ dX11_requireBed_25 hF
  · exact x_throwW cx hP hst hnt hk (text := "no such bed") (k := 2) (by decide) tw_ioobe (by decide +kernel) hl.1 dX11_requireBed_14 dX11_requireBed_17 dX11_requireBed_18 dX11_requireBed_21 dX11_requireBed_24 ⟨Nat.le_of_ble_eq_true rfl, Nat.le_of_ble_eq_true rfl⟩ ⟨Nat.le_of_ble_eq_true rfl, Nat.le_of_ble_eq_true rfl⟩ ⟨Nat.le_of_ble_eq_true rfl, Nat.le_of_ble_eq_true rfl⟩ hF
set_option maxHeartbeats 4000000 in
set_option maxRecDepth 100000 in
theorem w11_visit (l : Launch) (hst : l.stackTraces = false) (Γ : Wc) (ad : Nat → Nat → Nat) (A : Nat → Prop) (p1 : Int32) (p2 : Int32) (σ : Sig) (q : Xe) (hF : f11_visit p1 p2 σ = some q) : MXi l SX Γ ad A yX11_visit cX11_visit 3 (some .int) 7 111 2 [.ref (ad 0 0), .int p1, .int p2] σ q := by
  refine MXi.of (by decide) (Nat.le_of_ble_eq_true rfl) ?_
  intro p e s m args below meth c ls cx hnt hr hk hP hl
  have hl : lv_has ls 3 [(0, .ref (ad 0 0)), (1, .int p1), (2, .int p2)] := hl
  rw [f11_visit] at hF
  refine r_aload_n cx dX11_visit_0 (lv_at hl 0 rfl) ?_
  refine r_iload_n cx dX11_visit_1 (lv_at hl 1 rfl) ?_
  refine x_callVv cx hP hnt hk (As := [.int p1]) hF (fun z hz => w11_requireCard l hst Γ ad A p1 σ z hz) mw11_191 ⟨Nat.le_of_ble_eq_true rfl, Nat.le_of_ble_eq_true rfl⟩ (dXr (by decide)) rfl rfl rfl (Nat.le_of_ble_eq_true rfl) hl.1 ⟨Nat.le_of_ble_eq_true rfl, Nat.le_of_ble_eq_true rfl⟩ ⟨Nat.le_of_ble_eq_true rfl, Nat.le_of_ble_eq_true rfl⟩ dX11_visit_2 (fun v1 s2 H locs hP hF => ?_)
  refine r_aload_n cx dX11_visit_5 (lv_at hl 0 rfl) ?_
  refine r_iload_n cx dX11_visit_6 (lv_at hl 2 rfl) ?_
  refine x_callVv cx hP hnt hk (As := [.int p2]) hF (fun z hz => w11_requireBed l hst Γ ad A p2 s2 z hz) mw11_194 ⟨Nat.le_of_ble_eq_true rfl, Nat.le_of_ble_eq_true rfl⟩ (dXr (by decide)) rfl rfl rfl (Nat.le_of_ble_eq_true rfl) hl.1 ⟨Nat.le_of_ble_eq_true rfl, Nat.le_of_ble_eq_true rfl⟩ ⟨Nat.le_of_ble_eq_true rfl, Nat.le_of_ble_eq_true rfl⟩ dX11_visit_7 (fun v3 s4 H locs hP hF => ?_)
  refine r_aload_n cx dX11_visit_10 (lv_at hl 0 rfl) ?_
  refine gf11_22 cx hP dX11_visit_11 ?_
  refine r_aload_n cx dX11_visit_14 (lv_at hl 0 rfl) ?_
  refine gf11_12 cx hP dX11_visit_15 ?_
  obtain ⟨s5, hc, hF⟩ := bnd_some hF
  refine r_callVv cx hP (As := [.ref (ad (8 + 1) 0)]) (w5_remember l Γ ad A 8 (by decide : 8 < 11) s4 s5 hc) mw11_76 ⟨Nat.le_of_ble_eq_true rfl, Nat.le_of_ble_eq_true rfl⟩ (dXr (by decide)) rfl rfl rfl (Nat.le_of_ble_eq_true rfl) hl.1 ⟨Nat.le_of_ble_eq_true rfl, Nat.le_of_ble_eq_true rfl⟩ dX11_visit_18 (fun H locs hP => ?_)
  refine r_aload_n cx dX11_visit_21 (lv_at hl 0 rfl) ?_
  refine gf11_12 cx hP dX11_visit_22 ?_
  refine r_iload_n cx dX11_visit_25 (lv_at hl 1 rfl) ?_
  refine r_iload_n cx dX11_visit_26 (lv_at hl 2 rfl) ?_
  obtain ⟨v6, s7, hc, hF⟩ := bns_some hF
  refine r_callVi cx hP (As := [.int p1, .int p2]) (w4_showCard l Γ ad A 8 (by decide : 8 < 11) p1 p2 s5 v6 s7 hc) mw11_197 ⟨Nat.le_of_ble_eq_true rfl, Nat.le_of_ble_eq_true rfl⟩ (dXg (by decide : 8 < 11) (by decide)) rfl rfl rfl (Nat.le_of_ble_eq_true rfl) hl.1 ⟨Nat.le_of_ble_eq_true rfl, Nat.le_of_ble_eq_true rfl⟩ dX11_visit_27 (fun H locs hP => ?_)
  exact x_iret cx hP hr hk ⟨Nat.le_of_ble_eq_true rfl, Nat.le_of_ble_eq_true rfl⟩ dX11_visit_30 hF
set_option maxHeartbeats 4000000 in
set_option maxRecDepth 100000 in
theorem w11_pluck (l : Launch) (hst : l.stackTraces = false) (Γ : Wc) (ad : Nat → Nat → Nat) (A : Nat → Prop) (p1 : Int32) (p2 : Int32) (σ : Sig) (q : Xe) (hF : f11_pluck p1 p2 σ = some q) : MXi l SX Γ ad A yX11_pluck cX11_pluck 3 (some .int) 7 112 3 [.ref (ad 0 0), .int p1, .int p2] σ q := by
  refine MXi.of (by decide) (Nat.le_of_ble_eq_true rfl) ?_
  intro p e s m args below meth c ls cx hnt hr hk hP hl
  have hl : lv_has ls 3 [(0, .ref (ad 0 0)), (1, .int p1), (2, .int p2)] := hl
  rw [f11_pluck] at hF
  refine r_aload_n cx dX11_pluck_0 (lv_at hl 0 rfl) ?_
  refine r_iload_n cx dX11_pluck_1 (lv_at hl 1 rfl) ?_
  refine x_callVv cx hP hnt hk (As := [.int p1]) hF (fun z hz => w11_requireCard l hst Γ ad A p1 σ z hz) mw11_191 ⟨Nat.le_of_ble_eq_true rfl, Nat.le_of_ble_eq_true rfl⟩ (dXr (by decide)) rfl rfl rfl (Nat.le_of_ble_eq_true rfl) hl.1 ⟨Nat.le_of_ble_eq_true rfl, Nat.le_of_ble_eq_true rfl⟩ ⟨Nat.le_of_ble_eq_true rfl, Nat.le_of_ble_eq_true rfl⟩ dX11_pluck_2 (fun v1 s2 H locs hP hF => ?_)
  refine r_iload_n cx dX11_pluck_5 (lv_at hl 2 rfl) ?_
  refine r_iconst cx 1 dX11_pluck_6 (by decide) ?_
  refine r_bipush cx 9 dX11_pluck_7 (by decide) ?_
  refine x_callSv cx hP hnt hk (As := [.int p2, .int 1, .int 9]) hF (fun z hz => w11_requireRange l hst Γ ad A p2 1 9 s2 z hz) mw11_69 ⟨Nat.le_of_ble_eq_true rfl, Nat.le_of_ble_eq_true rfl⟩ rfl (Nat.le_of_ble_eq_true rfl) hl.1 ⟨Nat.le_of_ble_eq_true rfl, Nat.le_of_ble_eq_true rfl⟩ ⟨Nat.le_of_ble_eq_true rfl, Nat.le_of_ble_eq_true rfl⟩ dX11_pluck_9 (fun v3 s4 H locs hP hF => ?_)
  refine r_aload_n cx dX11_pluck_12 (lv_at hl 0 rfl) ?_
  refine gf11_12 cx hP dX11_pluck_13 ?_
  refine r_iload_n cx dX11_pluck_16 (lv_at hl 1 rfl) ?_
  refine r_iload_n cx dX11_pluck_17 (lv_at hl 2 rfl) ?_
  obtain ⟨v5, hc, hF⟩ := bnd_some hF
  refine r_callVi cx hP (As := [.int p1, .int p2]) (w4_canPluck l Γ ad A 8 (by decide : 8 < 11) p1 p2 s4 v5 hc) mw11_201 ⟨Nat.le_of_ble_eq_true rfl, Nat.le_of_ble_eq_true rfl⟩ (dXg (by decide : 8 < 11) (by decide)) rfl rfl rfl (Nat.le_of_ble_eq_true rfl) hl.1 ⟨Nat.le_of_ble_eq_true rfl, Nat.le_of_ble_eq_true rfl⟩ dX11_pluck_18 (fun H locs hP => ?_)
  refine x_callSv cx hP hnt hk (As := [.int v5]) hF (fun z hz => w11_requireState l hst Γ ad A v5 s4 z hz) mw11_114 ⟨Nat.le_of_ble_eq_true rfl, Nat.le_of_ble_eq_true rfl⟩ rfl (Nat.le_of_ble_eq_true rfl) hl.1 ⟨Nat.le_of_ble_eq_true rfl, Nat.le_of_ble_eq_true rfl⟩ ⟨Nat.le_of_ble_eq_true rfl, Nat.le_of_ble_eq_true rfl⟩ dX11_pluck_21 (fun v6 s7 H locs hP hF => ?_)
  refine r_aload_n cx dX11_pluck_24 (lv_at hl 0 rfl) ?_
  refine gf11_22 cx hP dX11_pluck_25 ?_
  refine r_aload_n cx dX11_pluck_28 (lv_at hl 0 rfl) ?_
  refine gf11_12 cx hP dX11_pluck_29 ?_
  obtain ⟨s8, hc, hF⟩ := bnd_some hF
  refine r_callVv cx hP (As := [.ref (ad (8 + 1) 0)]) (w5_remember l Γ ad A 8 (by decide : 8 < 11) s7 s8 hc) mw11_76 ⟨Nat.le_of_ble_eq_true rfl, Nat.le_of_ble_eq_true rfl⟩ (dXr (by decide)) rfl rfl rfl (Nat.le_of_ble_eq_true rfl) hl.1 ⟨Nat.le_of_ble_eq_true rfl, Nat.le_of_ble_eq_true rfl⟩ dX11_pluck_32 (fun H locs hP => ?_)
  refine r_aload_n cx dX11_pluck_35 (lv_at hl 0 rfl) ?_
  refine gf11_12 cx hP dX11_pluck_36 ?_
  refine r_iload_n cx dX11_pluck_39 (lv_at hl 1 rfl) ?_
  refine r_iload_n cx dX11_pluck_40 (lv_at hl 2 rfl) ?_
  obtain ⟨v9, s10, hc, hF⟩ := bns_some hF
  refine r_callVi cx hP (As := [.int p1, .int p2]) (w4_pluckBlooms l Γ ad A 8 (by decide : 8 < 11) p1 p2 s8 v9 s10 hc) mw11_204 ⟨Nat.le_of_ble_eq_true rfl, Nat.le_of_ble_eq_true rfl⟩ (dXg (by decide : 8 < 11) (by decide)) rfl rfl rfl (Nat.le_of_ble_eq_true rfl) hl.1 ⟨Nat.le_of_ble_eq_true rfl, Nat.le_of_ble_eq_true rfl⟩ dX11_pluck_41 (fun H locs hP => ?_)
  exact x_iret cx hP hr hk ⟨Nat.le_of_ble_eq_true rfl, Nat.le_of_ble_eq_true rfl⟩ dX11_pluck_44 hF
set_option maxHeartbeats 4000000 in
set_option maxRecDepth 100000 in
theorem w11_payFines (l : Launch) (hst : l.stackTraces = false) (Γ : Wc) (ad : Nat → Nat → Nat) (A : Nat → Prop) (p1 : Int32) (p2 : Int32) (σ : Sig) (q : Xe) (hF : f11_payFines p1 p2 σ = some q) : MXi l SX Γ ad A yX11_payFines cX11_payFines 3 (some .int) 7 112 3 [.ref (ad 0 0), .int p1, .int p2] σ q := by
  refine MXi.of (by decide) (Nat.le_of_ble_eq_true rfl) ?_
  intro p e s m args below meth c ls cx hnt hr hk hP hl
  have hl : lv_has ls 3 [(0, .ref (ad 0 0)), (1, .int p1), (2, .int p2)] := hl
  rw [f11_payFines] at hF
  generalize hH0 : s.heap = H0 at hP ⊢
  generalize ([] : List Loc) = locs0 at hP ⊢
  clear hH0
  have b34 : ∀ (x1 : Int32) (x2 : Int32) (t0 : Int32) (σ : Sig) (H : Heap) (locs : List Loc) (ls : Array Slot), PS SX Γ ad A s σ H locs → lv_has ls 3 [(0, .ref (ad 0 0)), (1, .int x1), (2, .int x2)] → f11_payFines_b34 x1 x2 t0 σ = some q → W p l e (rmx 7 112 3) s m args below meth c H locs 2 12 (vx_MQ below (QXi SX Γ ad A q) (XXe SX Γ ad A q) args s 3 (6 * 3) A) (F0 m 34 ls [.int t0]) := by
    intro x1 x2 t0 σ H locs ls hP hl hF
    rw [f11_payFines_b34] at hF
    refine x_callSv cx hP hnt hk (As := [.int t0]) hF (fun z hz => w11_requireState l hst Γ ad A t0 σ z hz) mw11_114 ⟨Nat.le_of_ble_eq_true rfl, Nat.le_of_ble_eq_true rfl⟩ rfl (Nat.le_of_ble_eq_true rfl) hl.1 ⟨Nat.le_of_ble_eq_true rfl, Nat.le_of_ble_eq_true rfl⟩ ⟨Nat.le_of_ble_eq_true rfl, Nat.le_of_ble_eq_true rfl⟩ dX11_payFines_34 (fun v1 s2 H locs hP hF => ?_)
    refine r_aload_n cx dX11_payFines_37 (lv_at hl 0 rfl) ?_
    refine gf11_22 cx hP dX11_payFines_38 ?_
    refine r_aload_n cx dX11_payFines_41 (lv_at hl 0 rfl) ?_
    refine gf11_12 cx hP dX11_payFines_42 ?_
    obtain ⟨s3, hc, hF⟩ := bnd_some hF
    refine r_callVv cx hP (As := [.ref (ad (8 + 1) 0)]) (w5_remember l Γ ad A 8 (by decide : 8 < 11) s2 s3 hc) mw11_76 ⟨Nat.le_of_ble_eq_true rfl, Nat.le_of_ble_eq_true rfl⟩ (dXr (by decide)) rfl rfl rfl (Nat.le_of_ble_eq_true rfl) hl.1 ⟨Nat.le_of_ble_eq_true rfl, Nat.le_of_ble_eq_true rfl⟩ dX11_payFines_45 (fun H locs hP => ?_)
    refine r_aload_n cx dX11_payFines_48 (lv_at hl 0 rfl) ?_
    refine gf11_12 cx hP dX11_payFines_49 ?_
    refine r_iload_n cx dX11_payFines_52 (lv_at hl 1 rfl) ?_
    refine r_iload_n cx dX11_payFines_53 (lv_at hl 2 rfl) ?_
    obtain ⟨s4, hc, hF⟩ := bnd_some hF
    refine r_callVv cx hP (As := [.int x1, .int x2]) (w4_payFinesOf l Γ ad A 8 (by decide : 8 < 11) x1 x2 s3 s4 hc) mw11_210 ⟨Nat.le_of_ble_eq_true rfl, Nat.le_of_ble_eq_true rfl⟩ (dXg (by decide : 8 < 11) (by decide)) rfl rfl rfl (Nat.le_of_ble_eq_true rfl) hl.1 ⟨Nat.le_of_ble_eq_true rfl, Nat.le_of_ble_eq_true rfl⟩ dX11_payFines_54 (fun H locs hP => ?_)
    refine r_aload_n cx dX11_payFines_57 (lv_at hl 0 rfl) ?_
    refine gf11_12 cx hP dX11_payFines_58 ?_
    refine gf11_79 cx hP (by decide : 8 < 11) dX11_payFines_61 ?_
    refine gf11_207 cx hP (by decide : 8 < 11) dX11_payFines_64 ?_
    refine r_iload_n cx dX11_payFines_67 (lv_at hl 1 rfl) ?_
    refine r_iald cx hP (dXg (by decide : 8 < 11) (by decide)) rfl dX11_payFines_68 hF (fun v5 hF => ?_)
    exact x_iret cx hP hr hk ⟨Nat.le_of_ble_eq_true rfl, Nat.le_of_ble_eq_true rfl⟩ dX11_payFines_69 hF
  refine r_aload_n cx dX11_payFines_0 (lv_at hl 0 rfl) ?_
  refine r_iload_n cx dX11_payFines_1 (lv_at hl 1 rfl) ?_
  refine x_callVv cx hP hnt hk (As := [.int p1]) hF (fun z hz => w11_requirePass l hst Γ ad A p1 σ z hz) mw11_151 ⟨Nat.le_of_ble_eq_true rfl, Nat.le_of_ble_eq_true rfl⟩ (dXr (by decide)) rfl rfl rfl (Nat.le_of_ble_eq_true rfl) hl.1 ⟨Nat.le_of_ble_eq_true rfl, Nat.le_of_ble_eq_true rfl⟩ ⟨Nat.le_of_ble_eq_true rfl, Nat.le_of_ble_eq_true rfl⟩ dX11_payFines_2 (fun v6 s7 H locs hP hF => ?_)
  refine r_iload_n cx dX11_payFines_5 (lv_at hl 2 rfl) ?_
  refine r_iconst cx 1 dX11_payFines_6 (by decide) ?_
  refine r_sipush cx 9999 dX11_payFines_7 (by decide) ?_
  refine x_callSv cx hP hnt hk (As := [.int p2, .int 1, .int 9999]) hF (fun z hz => w11_requireRange l hst Γ ad A p2 1 9999 s7 z hz) mw11_69 ⟨Nat.le_of_ble_eq_true rfl, Nat.le_of_ble_eq_true rfl⟩ rfl (Nat.le_of_ble_eq_true rfl) hl.1 ⟨Nat.le_of_ble_eq_true rfl, Nat.le_of_ble_eq_true rfl⟩ ⟨Nat.le_of_ble_eq_true rfl, Nat.le_of_ble_eq_true rfl⟩ dX11_payFines_10 (fun v8 s9 H locs hP hF => ?_)
  refine r_aload_n cx dX11_payFines_13 (lv_at hl 0 rfl) ?_
  refine gf11_12 cx hP dX11_payFines_14 ?_
  refine gf11_79 cx hP (by decide : 8 < 11) dX11_payFines_17 ?_
  refine gf11_207 cx hP (by decide : 8 < 11) dX11_payFines_20 ?_
  refine r_iload_n cx dX11_payFines_23 (lv_at hl 1 rfl) ?_
  refine r_iald cx hP (dXg (by decide : 8 < 11) (by decide)) rfl dX11_payFines_24 hF (fun v10 hF => ?_)
  refine r_iload_n cx dX11_payFines_25 (lv_at hl 2 rfl) ?_
  refine r_icmp_lt cx 33 dX11_payFines_26 (by decide) hF (fun hF => ?_) (fun hF => ?_)
  · refine r_iconst cx 0 dX11_payFines_33 (by decide) ?_
    exact b34 p1 p2 0 s9 _ _ _ hP (lv_sub hl [0, 1, 2] rfl) hF
  · refine r_iconst cx 1 dX11_payFines_29 (by decide) ?_
    refine r_goto cx 34 dX11_payFines_30 (by decide) ?_
    exact b34 p1 p2 1 s9 _ _ _ hP (lv_sub hl [0, 1, 2] rfl) hF
set_option maxHeartbeats 4000000 in
set_option maxRecDepth 100000 in
theorem w11_pass (l : Launch) (hst : l.stackTraces = false) (Γ : Wc) (ad : Nat → Nat → Nat) (A : Nat → Prop) (p1 : Int32) (σ : Sig) (q : Xe) (hF : f11_pass p1 σ = some q) : MXi l SX Γ ad A yX11_pass cX11_pass 2 (some .int) 7 112 2 [.ref (ad 0 0), .int p1] σ q := by
  refine MXi.of (by decide) (Nat.le_of_ble_eq_true rfl) ?_
  intro p e s m args below meth c ls cx hnt hr hk hP hl
  have hl : lv_has ls 2 [(0, .ref (ad 0 0)), (1, .int p1)] := hl
  rw [f11_pass] at hF
  refine r_iload_n cx dX11_pass_0 (lv_at hl 1 rfl) ?_
  refine r_iconst cx 1 dX11_pass_1 (by decide) ?_
  refine r_sipush cx 500 dX11_pass_2 (by decide) ?_
  refine x_callSv cx hP hnt hk (As := [.int p1, .int 1, .int 500]) hF (fun z hz => w11_requireRange l hst Γ ad A p1 1 500 σ z hz) mw11_69 ⟨Nat.le_of_ble_eq_true rfl, Nat.le_of_ble_eq_true rfl⟩ rfl (Nat.le_of_ble_eq_true rfl) hl.1 ⟨Nat.le_of_ble_eq_true rfl, Nat.le_of_ble_eq_true rfl⟩ ⟨Nat.le_of_ble_eq_true rfl, Nat.le_of_ble_eq_true rfl⟩ dX11_pass_5 (fun v1 s2 H locs hP hF => ?_)
  refine r_aload_n cx dX11_pass_8 (lv_at hl 0 rfl) ?_
  refine gf11_12 cx hP dX11_pass_9 ?_
  refine gf11_122 cx hP (by decide : 8 < 11) dX11_pass_12 ?_
  refine r_iload_n cx dX11_pass_15 (lv_at hl 1 rfl) ?_
  obtain ⟨v3, hc, hF⟩ := bnd_some hF
  refine r_callVi cx hP (As := [.int p1]) (w3_canGoOn l Γ ad A 8 (by decide : 8 < 11) p1 s2 v3 hc) mw11_213 ⟨Nat.le_of_ble_eq_true rfl, Nat.le_of_ble_eq_true rfl⟩ (dXg (by decide : 8 < 11) (by decide)) rfl rfl rfl (Nat.le_of_ble_eq_true rfl) hl.1 ⟨Nat.le_of_ble_eq_true rfl, Nat.le_of_ble_eq_true rfl⟩ dX11_pass_16 (fun H locs hP => ?_)
  refine x_callSv cx hP hnt hk (As := [.int v3]) hF (fun z hz => w11_requireState l hst Γ ad A v3 s2 z hz) mw11_114 ⟨Nat.le_of_ble_eq_true rfl, Nat.le_of_ble_eq_true rfl⟩ rfl (Nat.le_of_ble_eq_true rfl) hl.1 ⟨Nat.le_of_ble_eq_true rfl, Nat.le_of_ble_eq_true rfl⟩ ⟨Nat.le_of_ble_eq_true rfl, Nat.le_of_ble_eq_true rfl⟩ dX11_pass_19 (fun v4 s5 H locs hP hF => ?_)
  refine r_aload_n cx dX11_pass_22 (lv_at hl 0 rfl) ?_
  refine gf11_22 cx hP dX11_pass_23 ?_
  refine r_aload_n cx dX11_pass_26 (lv_at hl 0 rfl) ?_
  refine gf11_12 cx hP dX11_pass_27 ?_
  obtain ⟨s6, hc, hF⟩ := bnd_some hF
  refine r_callVv cx hP (As := [.ref (ad (8 + 1) 0)]) (w5_remember l Γ ad A 8 (by decide : 8 < 11) s5 s6 hc) mw11_76 ⟨Nat.le_of_ble_eq_true rfl, Nat.le_of_ble_eq_true rfl⟩ (dXr (by decide)) rfl rfl rfl (Nat.le_of_ble_eq_true rfl) hl.1 ⟨Nat.le_of_ble_eq_true rfl, Nat.le_of_ble_eq_true rfl⟩ dX11_pass_30 (fun H locs hP => ?_)
  refine r_aload_n cx dX11_pass_33 (lv_at hl 0 rfl) ?_
  refine gf11_12 cx hP dX11_pass_34 ?_
  refine r_iload_n cx dX11_pass_37 (lv_at hl 1 rfl) ?_
  obtain ⟨s7, hc, hF⟩ := bnd_some hF
  refine r_callVv cx hP (As := [.int p1]) (w4_letTicksPass l Γ ad A 8 (by decide : 8 < 11) p1 s6 s7 hc) mw11_216 ⟨Nat.le_of_ble_eq_true rfl, Nat.le_of_ble_eq_true rfl⟩ (dXg (by decide : 8 < 11) (by decide)) rfl rfl rfl (Nat.le_of_ble_eq_true rfl) hl.1 ⟨Nat.le_of_ble_eq_true rfl, Nat.le_of_ble_eq_true rfl⟩ dX11_pass_38 (fun H locs hP => ?_)
  refine r_aload_n cx dX11_pass_41 (lv_at hl 0 rfl) ?_
  refine gf11_12 cx hP dX11_pass_42 ?_
  refine gf11_122 cx hP (by decide : 8 < 11) dX11_pass_45 ?_
  refine gf11_219 cx hP (by decide : 8 < 11) dX11_pass_48 hF (fun v8 hF => ?_)
  exact x_iret cx hP hr hk ⟨Nat.le_of_ble_eq_true rfl, Nat.le_of_ble_eq_true rfl⟩ dX11_pass_51 hF
set_option maxHeartbeats 4000000 in
set_option maxRecDepth 100000 in
theorem w5_takeBack (l : Launch) (Γ : Wc) (ad : Nat → Nat → Nat) (A : Nat → Prop) (n1 : Nat) (hn1 : n1 < 11) (σ : Sig) (σ1 : Sig) (hF : f5_takeBack n1 σ = some σ1) : MV l SX Γ ad A yX5_takeBack cX5_takeBack 2 3 67 [.ref (ad 0 1), .ref (ad (n1 + 1) 0)] σ σ1 := by
  refine MV.of (by decide) (Nat.le_of_ble_eq_true rfl) ?_
  intro p e s m args below meth c ls cx hr hk hP hl
  have hl : lv_has ls 2 [(0, .ref (ad 0 1)), (1, .ref (ad (n1 + 1) 0))] := hl
  rw [f5_takeBack] at hF
  refine r_aload_n cx dX5_takeBack_0 (lv_at hl 0 rfl) ?_
  refine r_aload_n cx dX5_takeBack_1 (lv_at hl 0 rfl) ?_
  refine gf5_18 cx hP dX5_takeBack_2 hF (fun v1 hF => ?_)
  refine r_bipush cx 8 dX5_takeBack_5 (by decide) ?_
  refine r_iadd cx dX5_takeBack_7 hF (fun v2 hF => ?_)
  refine r_iconst cx 1 dX5_takeBack_8 (by decide) ?_
  refine r_isub cx dX5_takeBack_9 hF (fun v3 hF => ?_)
  refine r_bipush cx 8 dX5_takeBack_10 (by decide) ?_
  refine r_irem cx dX5_takeBack_12 hF (fun v4 hF => ?_)
  refine pf5_18 cx hP dX5_takeBack_13 hF (fun s5 H locs hP hF => ?_)
  refine r_aload_n cx dX5_takeBack_16 (lv_at hl 1 rfl) ?_
  refine r_aload_n cx dX5_takeBack_17 (lv_at hl 0 rfl) ?_
  refine gf5_11 cx hP dX5_takeBack_18 ?_
  refine r_aload_n cx dX5_takeBack_21 (lv_at hl 0 rfl) ?_
  refine gf5_18 cx hP dX5_takeBack_22 hF (fun v6 hF => ?_)
  refine r_aald cx hP (t := 3) (dXr (by decide)) rfl rfl rfl dX5_takeBack_25 hF (fun j7 hj7 _ hF => ?_)
  obtain ⟨s8, hc, hF⟩ := bnd_some hF
  refine r_callVv cx hP (As := [.ref (ad (j7 + 1) 0)]) (w4_copyFrom l Γ ad A n1 hn1 j7 (Nat.lt_of_lt_of_le hj7 (by decide)) s5 s8 hc) mw5_22 ⟨Nat.le_of_ble_eq_true rfl, Nat.le_of_ble_eq_true rfl⟩ (dXg hn1 (by decide)) rfl rfl rfl (Nat.le_of_ble_eq_true rfl) hl.1 ⟨Nat.zero_le _, Nat.zero_le _⟩ dX5_takeBack_26 (fun H locs hP => ?_)
  refine r_aload_n cx dX5_takeBack_29 (lv_at hl 0 rfl) ?_
  refine r_dup cx dX5_takeBack_30 rfl ?_
  refine gf5_26 cx hP dX5_takeBack_31 hF (fun v9 hF => ?_)
  refine r_iconst cx 1 dX5_takeBack_34 (by decide) ?_
  refine r_isub cx dX5_takeBack_35 hF (fun v10 hF => ?_)
  refine pf5_26 cx hP dX5_takeBack_36 hF (fun s11 H locs hP hF => ?_)
  exact r_vret cx hP hr hk dX5_takeBack_39 hF
set_option maxHeartbeats 4000000 in
set_option maxRecDepth 100000 in
theorem w11_undo (l : Launch) (Γ : Wc) (ad : Nat → Nat → Nat) (A : Nat → Prop)  (σ : Sig) (r : Int32) (σ1 : Sig) (hF : f11_undo  σ = some (r, σ1)) : MI l SX Γ ad A yX11_undo cX11_undo 1 (some .int) 4 88 [.ref (ad 0 0)] σ r σ1 := by
  refine MI.of (by decide) (Nat.le_of_ble_eq_true rfl) ?_
  intro p e s m args below meth c ls cx hr hk hP hl
  have hl : lv_has ls 1 [(0, .ref (ad 0 0))] := hl
  rw [f11_undo] at hF
  refine r_aload_n cx dX11_undo_0 (lv_at hl 0 rfl) ?_
  refine gf11_22 cx hP dX11_undo_1 ?_
  refine gf11_222 cx hP dX11_undo_4 hF (fun v1 hF => ?_)
  refine r_if_ne cx 12 dX11_undo_7 (by decide) hF (fun hF => ?_) (fun hF => ?_)
  · refine r_aload_n cx dX11_undo_12 (lv_at hl 0 rfl) ?_
    refine gf11_22 cx hP dX11_undo_13 ?_
    refine r_aload_n cx dX11_undo_16 (lv_at hl 0 rfl) ?_
    refine gf11_12 cx hP dX11_undo_17 ?_
    obtain ⟨s2, hc, hF⟩ := bnd_some hF
    refine r_callVv cx hP (As := [.ref (ad (8 + 1) 0)]) (w5_takeBack l Γ ad A 8 (by decide : 8 < 11) σ s2 hc) mw11_223 ⟨Nat.le_of_ble_eq_true rfl, Nat.le_of_ble_eq_true rfl⟩ (dXr (by decide)) rfl rfl rfl (Nat.le_of_ble_eq_true rfl) hl.1 ⟨Nat.zero_le _, Nat.zero_le _⟩ dX11_undo_20 (fun H locs hP => ?_)
    refine r_aload_n cx dX11_undo_23 (lv_at hl 0 rfl) ?_
    refine gf11_22 cx hP dX11_undo_24 ?_
    refine gf11_222 cx hP dX11_undo_27 hF (fun v3 hF => ?_)
    exact r_iret cx hP hr hk dX11_undo_30 hF
  · refine r_iconst cx (-1) dX11_undo_10 (by decide) ?_
    exact r_iret cx hP hr hk dX11_undo_11 hF
set_option maxHeartbeats 4000000 in
set_option maxRecDepth 100000 in
theorem w11_time (l : Launch) (Γ : Wc) (ad : Nat → Nat → Nat) (A : Nat → Prop)  (σ : Sig) (r : Int32) (hF : f11_time  σ = some r) : MI l SX Γ ad A yX11_time cX11_time 1 (some .int) 0 0 [.ref (ad 0 0)] σ r σ := by
  refine MI.of (by decide) (Nat.le_of_ble_eq_true rfl) ?_
  intro p e s m args below meth c ls cx hr hk hP hl
  have hl : lv_has ls 1 [(0, .ref (ad 0 0))] := hl
  rw [f11_time] at hF
  refine r_aload_n cx dX11_time_0 (lv_at hl 0 rfl) ?_
  refine gf11_12 cx hP dX11_time_1 ?_
  refine gf11_122 cx hP (by decide : 8 < 11) dX11_time_4 ?_
  refine gf11_219 cx hP (by decide : 8 < 11) dX11_time_7 hF (fun v1 hF => ?_)
  exact r_iret cx hP hr hk dX11_time_10 (prF hF)
set_option maxHeartbeats 4000000 in
set_option maxRecDepth 100000 in
theorem w11_day (l : Launch) (Γ : Wc) (ad : Nat → Nat → Nat) (A : Nat → Prop)  (σ : Sig) (r : Int32) (hF : f11_day  σ = some r) : MI l SX Γ ad A yX11_day cX11_day 1 (some .int) 1 20 [.ref (ad 0 0)] σ r σ := by
  refine MI.of (by decide) (Nat.le_of_ble_eq_true rfl) ?_
  intro p e s m args below meth c ls cx hr hk hP hl
  have hl : lv_has ls 1 [(0, .ref (ad 0 0))] := hl
  rw [f11_day] at hF
  refine r_aload_n cx dX11_day_0 (lv_at hl 0 rfl) ?_
  refine gf11_12 cx hP dX11_day_1 ?_
  refine gf11_122 cx hP (by decide : 8 < 11) dX11_day_4 ?_
  obtain ⟨v1, hc, hF⟩ := bnd_some hF
  refine r_callVi cx hP (As := []) (w3_today l Γ ad A 8 (by decide : 8 < 11) σ v1 hc) mw11_142 ⟨Nat.le_of_ble_eq_true rfl, Nat.le_of_ble_eq_true rfl⟩ (dXg (by decide : 8 < 11) (by decide)) rfl rfl rfl (Nat.le_of_ble_eq_true rfl) hl.1 ⟨Nat.zero_le _, Nat.zero_le _⟩ dX11_day_7 (fun H locs hP => ?_)
  exact r_iret cx hP hr hk dX11_day_10 (prF hF)
set_option maxHeartbeats 4000000 in
set_option maxRecDepth 100000 in
theorem w11_isOpen (l : Launch) (Γ : Wc) (ad : Nat → Nat → Nat) (A : Nat → Prop)  (σ : Sig) (r : Int32) (hF : f11_isOpen  σ = some r) : MI l SX Γ ad A yX11_isOpen cX11_isOpen 1 (some .boolean) 1 22 [.ref (ad 0 0)] σ r σ := by
  refine MI.of (by decide) (Nat.le_of_ble_eq_true rfl) ?_
  intro p e s m args below meth c ls cx hr hk hP hl
  have hl : lv_has ls 1 [(0, .ref (ad 0 0))] := hl
  rw [f11_isOpen] at hF
  refine r_aload_n cx dX11_isOpen_0 (lv_at hl 0 rfl) ?_
  refine gf11_12 cx hP dX11_isOpen_1 ?_
  refine gf11_122 cx hP (by decide : 8 < 11) dX11_isOpen_4 ?_
  refine r_aload_n cx dX11_isOpen_7 (lv_at hl 0 rfl) ?_
  refine gf11_12 cx hP dX11_isOpen_8 ?_
  refine gf11_122 cx hP (by decide : 8 < 11) dX11_isOpen_11 ?_
  obtain ⟨v1, hc, hF⟩ := bnd_some hF
  refine r_callVi cx hP (As := []) (w3_tickOfDay l Γ ad A 8 (by decide : 8 < 11) σ v1 hc) mw11_242 ⟨Nat.le_of_ble_eq_true rfl, Nat.le_of_ble_eq_true rfl⟩ (dXg (by decide : 8 < 11) (by decide)) rfl rfl rfl (Nat.le_of_ble_eq_true rfl) hl.1 ⟨Nat.zero_le _, Nat.zero_le _⟩ dX11_isOpen_14 (fun H locs hP => ?_)
  obtain ⟨v2, hc, hF⟩ := bnd_some hF
  refine r_callVi cx hP (As := [.int v1]) (w3_isOpenIn l Γ ad A 8 (by decide : 8 < 11) v1 σ v2 hc) mw11_245 ⟨Nat.le_of_ble_eq_true rfl, Nat.le_of_ble_eq_true rfl⟩ (dXg (by decide : 8 < 11) (by decide)) rfl rfl rfl (Nat.le_of_ble_eq_true rfl) hl.1 ⟨Nat.zero_le _, Nat.zero_le _⟩ dX11_isOpen_17 (fun H locs hP => ?_)
  exact r_zret cx hP hr hk (nar_gz (gz_some hF).1) dX11_isOpen_20 (prF (gz_some hF).2)
set_option maxHeartbeats 4000000 in
set_option maxRecDepth 100000 in
theorem w3_waitForOpening (l : Launch) (Γ : Wc) (ad : Nat → Nat → Nat) (A : Nat → Prop) (n : Nat) (hn : n < 11) (σ : Sig) (r : Int32) (hF : f3_waitForOpening n σ = some r) : MI l SX Γ ad A yX3_waitForOpening cX3_waitForOpening 2 (some .int) 1 22 [.ref (ad (n + 1) 1)] σ r σ := by
  refine MI.of (by decide) (Nat.le_of_ble_eq_true rfl) ?_
  intro p e s m args below meth c ls cx hr hk hP hl
  have hl : lv_has ls 2 [(0, .ref (ad (n + 1) 1))] := hl
  rw [f3_waitForOpening] at hF
  generalize hH0 : s.heap = H0 at hP ⊢
  generalize ([] : List Loc) = locs0 at hP ⊢
  clear hH0
  have b2 : ∀ (fu : Nat) (x1 : Int32) (H : Heap) (locs : List Loc) (ls : Array Slot), PS SX Γ ad A s σ H locs → lv_has ls 2 [(0, .ref (ad (n + 1) 1)), (1, .int x1)] → f3_waitForOpening_b2 n fu x1 σ = some r → W p l e (rmz 1 22) s m args below meth c H locs 0 0 (QI SX Γ ad A below args s r σ) (F0 m 2 ls []) := by
    intro fu
    induction fu with
    | zero => intro x1 H locs ls hP hl hF; exact nofu hF
    | succ fu ih =>
      intro x1 H locs ls hP hl hF
      rw [f3_waitForOpening_b2] at hF
      refine r_iload_n cx dX3_waitForOpening_2 (lv_at hl 1 rfl) ?_
      refine r_bipush cx 96 dX3_waitForOpening_3 (by decide) ?_
      refine r_icmp_ge cx 32 dX3_waitForOpening_5 (by decide) hF (fun hF => ?_) (fun hF => ?_)
      · refine r_iconst cx (-1) dX3_waitForOpening_32 (by decide) ?_
        exact r_iret cx hP hr hk dX3_waitForOpening_33 (prF hF)
      · refine r_aload_n cx dX3_waitForOpening_8 (lv_at hl 0 rfl) ?_
        refine r_aload_n cx dX3_waitForOpening_9 (lv_at hl 0 rfl) ?_
        refine gf3_9 cx hP hn dX3_waitForOpening_10 hF (fun v1 hF => ?_)
        refine r_iload_n cx dX3_waitForOpening_13 (lv_at hl 1 rfl) ?_
        refine r_iadd cx dX3_waitForOpening_14 hF (fun v2 hF => ?_)
        refine r_bipush cx 96 dX3_waitForOpening_15 (by decide) ?_
        refine r_irem cx dX3_waitForOpening_17 hF (fun v3 hF => ?_)
        obtain ⟨v4, hc, hF⟩ := bnd_some hF
        refine r_callVi cx hP (As := [.int v3]) (w3_isOpenIn l Γ ad A n hn v3 σ v4 hc) mw3_25 ⟨Nat.le_of_ble_eq_true rfl, Nat.le_of_ble_eq_true rfl⟩ (dXg hn (by decide)) rfl rfl rfl (Nat.le_of_ble_eq_true rfl) hl.1 ⟨Nat.zero_le _, Nat.zero_le _⟩ dX3_waitForOpening_18 (fun H locs hP => ?_)
        refine r_if_eq cx 26 dX3_waitForOpening_21 (by decide) hF (fun hF => ?_) (fun hF => ?_)
        · refine r_iinc cx (k := 1) (w := 1) (fun v5 => [(1, .int v5), (0, .ref (ad (n + 1) 1))]) dX3_waitForOpening_26 hl rfl (by decide) (by decide) hF (fun _ => rfl) (fun v5 ls hF hl => ?_)
          refine r_goto cx 2 dX3_waitForOpening_29 (by decide) ?_
          exact ih v5 _ _ _ hP (lv_sub hl [1, 0] rfl) hF
        · refine r_iload_n cx dX3_waitForOpening_24 (lv_at hl 1 rfl) ?_
          exact r_iret cx hP hr hk dX3_waitForOpening_25 (prF hF)
  refine r_iconst cx 0 dX3_waitForOpening_0 (by decide) ?_
  refine r_istore_n cx [(1, .int 0), (0, .ref (ad (n + 1) 1))] dX3_waitForOpening_1 hl (by decide) rfl (fun ls hl => ?_)
  exact b2 FU 0 _ _ _ hP (lv_sub hl [1, 0] rfl) hF
set_option maxHeartbeats 4000000 in
set_option maxRecDepth 100000 in
theorem w11_ticksUntilOpen (l : Launch) (Γ : Wc) (ad : Nat → Nat → Nat) (A : Nat → Prop)  (σ : Sig) (r : Int32) (hF : f11_ticksUntilOpen  σ = some r) : MI l SX Γ ad A yX11_ticksUntilOpen cX11_ticksUntilOpen 1 (some .int) 2 43 [.ref (ad 0 0)] σ r σ := by
  refine MI.of (by decide) (Nat.le_of_ble_eq_true rfl) ?_
  intro p e s m args below meth c ls cx hr hk hP hl
  have hl : lv_has ls 1 [(0, .ref (ad 0 0))] := hl
  rw [f11_ticksUntilOpen] at hF
  refine r_aload_n cx dX11_ticksUntilOpen_0 (lv_at hl 0 rfl) ?_
  refine gf11_12 cx hP dX11_ticksUntilOpen_1 ?_
  refine gf11_122 cx hP (by decide : 8 < 11) dX11_ticksUntilOpen_4 ?_
  obtain ⟨v1, hc, hF⟩ := bnd_some hF
  refine r_callVi cx hP (As := []) (w3_waitForOpening l Γ ad A 8 (by decide : 8 < 11) σ v1 hc) mw11_248 ⟨Nat.le_of_ble_eq_true rfl, Nat.le_of_ble_eq_true rfl⟩ (dXg (by decide : 8 < 11) (by decide)) rfl rfl rfl (Nat.le_of_ble_eq_true rfl) hl.1 ⟨Nat.zero_le _, Nat.zero_le _⟩ dX11_ticksUntilOpen_7 (fun H locs hP => ?_)
  exact r_iret cx hP hr hk dX11_ticksUntilOpen_10 (prF hF)
set_option maxHeartbeats 4000000 in
set_option maxRecDepth 100000 in
theorem w11_bedCount (l : Launch) (Γ : Wc) (ad : Nat → Nat → Nat) (A : Nat → Prop)  (σ : Sig) (r : Int32) (hF : f11_bedCount  σ = some r) : MI l SX Γ ad A yX11_bedCount cX11_bedCount 1 (some .int) 0 0 [.ref (ad 0 0)] σ r σ := by
  refine MI.of (by decide) (Nat.le_of_ble_eq_true rfl) ?_
  intro p e s m args below meth c ls cx hr hk hP hl
  have hl : lv_has ls 1 [(0, .ref (ad 0 0))] := hl
  rw [f11_bedCount] at hF
  refine r_aload_n cx dX11_bedCount_0 (lv_at hl 0 rfl) ?_
  refine gf11_12 cx hP dX11_bedCount_1 ?_
  refine gf11_104 cx hP (by decide : 8 < 11) dX11_bedCount_4 ?_
  refine gf11_251 cx hP (by decide : 8 < 11) dX11_bedCount_7 hF (fun v1 hF => ?_)
  exact r_iret cx hP hr hk dX11_bedCount_10 (prF hF)
set_option maxHeartbeats 4000000 in
set_option maxRecDepth 100000 in
theorem w11_isInSeason (l : Launch) (hst : l.stackTraces = false) (Γ : Wc) (ad : Nat → Nat → Nat) (A : Nat → Prop) (p1 : Int32) (σ : Sig) (q : Xe) (hF : f11_isInSeason p1 σ = some q) : MXi l SX Γ ad A yX11_isInSeason cX11_isInSeason 2 (some .boolean) 7 111 1 [.ref (ad 0 0), .int p1] σ q := by
  refine MXi.of (by decide) (Nat.le_of_ble_eq_true rfl) ?_
  intro p e s m args below meth c ls cx hnt hr hk hP hl
  have hl : lv_has ls 2 [(0, .ref (ad 0 0)), (1, .int p1)] := hl
  rw [f11_isInSeason] at hF
  refine r_aload_n cx dX11_isInSeason_0 (lv_at hl 0 rfl) ?_
  refine r_iload_n cx dX11_isInSeason_1 (lv_at hl 1 rfl) ?_
  refine x_callVv cx hP hnt hk (As := [.int p1]) hF (fun z hz => w11_requireBed l hst Γ ad A p1 σ z hz) mw11_194 ⟨Nat.le_of_ble_eq_true rfl, Nat.le_of_ble_eq_true rfl⟩ (dXr (by decide)) rfl rfl rfl (Nat.le_of_ble_eq_true rfl) hl.1 ⟨Nat.le_of_ble_eq_true rfl, Nat.le_of_ble_eq_true rfl⟩ ⟨Nat.le_of_ble_eq_true rfl, Nat.le_of_ble_eq_true rfl⟩ dX11_isInSeason_2 (fun v1 s2 H locs hP hF => ?_)
  refine r_aload_n cx dX11_isInSeason_5 (lv_at hl 0 rfl) ?_
  refine gf11_12 cx hP dX11_isInSeason_6 ?_
  refine gf11_104 cx hP (by decide : 8 < 11) dX11_isInSeason_9 ?_
  refine r_iload_n cx dX11_isInSeason_12 (lv_at hl 1 rfl) ?_
  refine r_aload_n cx dX11_isInSeason_13 (lv_at hl 0 rfl) ?_
  refine gf11_12 cx hP dX11_isInSeason_14 ?_
  refine gf11_122 cx hP (by decide : 8 < 11) dX11_isInSeason_17 ?_
  obtain ⟨v3, hc, hF⟩ := bnd_some hF
  refine r_callVi cx hP (As := []) (w3_today l Γ ad A 8 (by decide : 8 < 11) s2 v3 hc) mw11_142 ⟨Nat.le_of_ble_eq_true rfl, Nat.le_of_ble_eq_true rfl⟩ (dXg (by decide : 8 < 11) (by decide)) rfl rfl rfl (Nat.le_of_ble_eq_true rfl) hl.1 ⟨Nat.le_of_ble_eq_true rfl, Nat.le_of_ble_eq_true rfl⟩ dX11_isInSeason_20 (fun H locs hP => ?_)
  obtain ⟨v4, hc, hF⟩ := bnd_some hF
  refine r_callVi cx hP (As := [.int p1, .int v3]) (w0_hasSeasonOn l Γ ad A 8 (by decide : 8 < 11) p1 v3 s2 v4 hc) mw11_255 ⟨Nat.le_of_ble_eq_true rfl, Nat.le_of_ble_eq_true rfl⟩ (dXg (by decide : 8 < 11) (by decide)) rfl rfl rfl (Nat.le_of_ble_eq_true rfl) hl.1 ⟨Nat.le_of_ble_eq_true rfl, Nat.le_of_ble_eq_true rfl⟩ dX11_isInSeason_23 (fun H locs hP => ?_)
  exact x_zret cx hP hr hk (nar_gz (gz_some hF).1) ⟨Nat.le_of_ble_eq_true rfl, Nat.le_of_ble_eq_true rfl⟩ dX11_isInSeason_26 (gz_some hF).2
set_option maxHeartbeats 4000000 in
set_option maxRecDepth 100000 in
theorem w11_blooms (l : Launch) (hst : l.stackTraces = false) (Γ : Wc) (ad : Nat → Nat → Nat) (A : Nat → Prop) (p1 : Int32) (σ : Sig) (q : Xe) (hF : f11_blooms p1 σ = some q) : MXi l SX Γ ad A yX11_blooms cX11_blooms 2 (some .int) 7 111 1 [.ref (ad 0 0), .int p1] σ q := by
  refine MXi.of (by decide) (Nat.le_of_ble_eq_true rfl) ?_
  intro p e s m args below meth c ls cx hnt hr hk hP hl
  have hl : lv_has ls 2 [(0, .ref (ad 0 0)), (1, .int p1)] := hl
  rw [f11_blooms] at hF
  refine r_aload_n cx dX11_blooms_0 (lv_at hl 0 rfl) ?_
  refine r_iload_n cx dX11_blooms_1 (lv_at hl 1 rfl) ?_
  refine x_callVv cx hP hnt hk (As := [.int p1]) hF (fun z hz => w11_requireBed l hst Γ ad A p1 σ z hz) mw11_194 ⟨Nat.le_of_ble_eq_true rfl, Nat.le_of_ble_eq_true rfl⟩ (dXr (by decide)) rfl rfl rfl (Nat.le_of_ble_eq_true rfl) hl.1 ⟨Nat.le_of_ble_eq_true rfl, Nat.le_of_ble_eq_true rfl⟩ ⟨Nat.le_of_ble_eq_true rfl, Nat.le_of_ble_eq_true rfl⟩ dX11_blooms_2 (fun v1 s2 H locs hP hF => ?_)
  refine r_aload_n cx dX11_blooms_5 (lv_at hl 0 rfl) ?_
  refine gf11_12 cx hP dX11_blooms_6 ?_
  refine gf11_104 cx hP (by decide : 8 < 11) dX11_blooms_9 ?_
  refine gf11_258 cx hP (by decide : 8 < 11) dX11_blooms_12 ?_
  refine r_iload_n cx dX11_blooms_15 (lv_at hl 1 rfl) ?_
  refine r_iald cx hP (dXg (by decide : 8 < 11) (by decide)) rfl dX11_blooms_16 hF (fun v3 hF => ?_)
  exact x_iret cx hP hr hk ⟨Nat.le_of_ble_eq_true rfl, Nat.le_of_ble_eq_true rfl⟩ dX11_blooms_17 hF
set_option maxHeartbeats 4000000 in
set_option maxRecDepth 100000 in
theorem w11_placesLeft (l : Launch) (hst : l.stackTraces = false) (Γ : Wc) (ad : Nat → Nat → Nat) (A : Nat → Prop) (p1 : Int32) (σ : Sig) (q : Xe) (hF : f11_placesLeft p1 σ = some q) : MXi l SX Γ ad A yX11_placesLeft cX11_placesLeft 2 (some .int) 7 111 1 [.ref (ad 0 0), .int p1] σ q := by
  refine MXi.of (by decide) (Nat.le_of_ble_eq_true rfl) ?_
  intro p e s m args below meth c ls cx hnt hr hk hP hl
  have hl : lv_has ls 2 [(0, .ref (ad 0 0)), (1, .int p1)] := hl
  rw [f11_placesLeft] at hF
  refine r_aload_n cx dX11_placesLeft_0 (lv_at hl 0 rfl) ?_
  refine r_iload_n cx dX11_placesLeft_1 (lv_at hl 1 rfl) ?_
  refine x_callVv cx hP hnt hk (As := [.int p1]) hF (fun z hz => w11_requireBed l hst Γ ad A p1 σ z hz) mw11_194 ⟨Nat.le_of_ble_eq_true rfl, Nat.le_of_ble_eq_true rfl⟩ (dXr (by decide)) rfl rfl rfl (Nat.le_of_ble_eq_true rfl) hl.1 ⟨Nat.le_of_ble_eq_true rfl, Nat.le_of_ble_eq_true rfl⟩ ⟨Nat.le_of_ble_eq_true rfl, Nat.le_of_ble_eq_true rfl⟩ dX11_placesLeft_2 (fun v1 s2 H locs hP hF => ?_)
  refine r_aload_n cx dX11_placesLeft_5 (lv_at hl 0 rfl) ?_
  refine gf11_12 cx hP dX11_placesLeft_6 ?_
  refine gf11_104 cx hP (by decide : 8 < 11) dX11_placesLeft_9 ?_
  refine r_iload_n cx dX11_placesLeft_12 (lv_at hl 1 rfl) ?_
  obtain ⟨v3, hc, hF⟩ := bnd_some hF
  refine r_callVi cx hP (As := [.int p1]) (w0_freePlaces l Γ ad A 8 (by decide : 8 < 11) p1 s2 v3 hc) mw11_261 ⟨Nat.le_of_ble_eq_true rfl, Nat.le_of_ble_eq_true rfl⟩ (dXg (by decide : 8 < 11) (by decide)) rfl rfl rfl (Nat.le_of_ble_eq_true rfl) hl.1 ⟨Nat.le_of_ble_eq_true rfl, Nat.le_of_ble_eq_true rfl⟩ dX11_placesLeft_13 (fun H locs hP => ?_)
  exact x_iret cx hP hr hk ⟨Nat.le_of_ble_eq_true rfl, Nat.le_of_ble_eq_true rfl⟩ dX11_placesLeft_16 hF
set_option maxHeartbeats 4000000 in
set_option maxRecDepth 100000 in
theorem w11_visitsTo (l : Launch) (hst : l.stackTraces = false) (Γ : Wc) (ad : Nat → Nat → Nat) (A : Nat → Prop) (p1 : Int32) (σ : Sig) (q : Xe) (hF : f11_visitsTo p1 σ = some q) : MXi l SX Γ ad A yX11_visitsTo cX11_visitsTo 2 (some .int) 7 111 1 [.ref (ad 0 0), .int p1] σ q := by
  refine MXi.of (by decide) (Nat.le_of_ble_eq_true rfl) ?_
  intro p e s m args below meth c ls cx hnt hr hk hP hl
  have hl : lv_has ls 2 [(0, .ref (ad 0 0)), (1, .int p1)] := hl
  rw [f11_visitsTo] at hF
  refine r_aload_n cx dX11_visitsTo_0 (lv_at hl 0 rfl) ?_
  refine r_iload_n cx dX11_visitsTo_1 (lv_at hl 1 rfl) ?_
  refine x_callVv cx hP hnt hk (As := [.int p1]) hF (fun z hz => w11_requireBed l hst Γ ad A p1 σ z hz) mw11_194 ⟨Nat.le_of_ble_eq_true rfl, Nat.le_of_ble_eq_true rfl⟩ (dXr (by decide)) rfl rfl rfl (Nat.le_of_ble_eq_true rfl) hl.1 ⟨Nat.le_of_ble_eq_true rfl, Nat.le_of_ble_eq_true rfl⟩ ⟨Nat.le_of_ble_eq_true rfl, Nat.le_of_ble_eq_true rfl⟩ dX11_visitsTo_2 (fun v1 s2 H locs hP hF => ?_)
  refine r_aload_n cx dX11_visitsTo_5 (lv_at hl 0 rfl) ?_
  refine gf11_12 cx hP dX11_visitsTo_6 ?_
  refine gf11_104 cx hP (by decide : 8 < 11) dX11_visitsTo_9 ?_
  refine gf11_264 cx hP (by decide : 8 < 11) dX11_visitsTo_12 ?_
  refine r_iload_n cx dX11_visitsTo_15 (lv_at hl 1 rfl) ?_
  refine r_iald cx hP (dXg (by decide : 8 < 11) (by decide)) rfl dX11_visitsTo_16 hF (fun v3 hF => ?_)
  exact x_iret cx hP hr hk ⟨Nat.le_of_ble_eq_true rfl, Nat.le_of_ble_eq_true rfl⟩ dX11_visitsTo_17 hF
set_option maxHeartbeats 4000000 in
set_option maxRecDepth 100000 in
theorem w11_passCount (l : Launch) (Γ : Wc) (ad : Nat → Nat → Nat) (A : Nat → Prop)  (σ : Sig) (r : Int32) (hF : f11_passCount  σ = some r) : MI l SX Γ ad A yX11_passCount cX11_passCount 1 (some .int) 0 0 [.ref (ad 0 0)] σ r σ := by
  refine MI.of (by decide) (Nat.le_of_ble_eq_true rfl) ?_
  intro p e s m args below meth c ls cx hr hk hP hl
  have hl : lv_has ls 1 [(0, .ref (ad 0 0))] := hl
  rw [f11_passCount] at hF
  refine r_aload_n cx dX11_passCount_0 (lv_at hl 0 rfl) ?_
  refine gf11_12 cx hP dX11_passCount_1 ?_
  refine gf11_79 cx hP (by decide : 8 < 11) dX11_passCount_4 ?_
  refine gf11_83 cx hP (by decide : 8 < 11) dX11_passCount_7 hF (fun v1 hF => ?_)
  exact r_iret cx hP hr hk dX11_passCount_10 (prF hF)
set_option maxHeartbeats 4000000 in
set_option maxRecDepth 100000 in
theorem w11_firstDay (l : Launch) (hst : l.stackTraces = false) (Γ : Wc) (ad : Nat → Nat → Nat) (A : Nat → Prop) (p1 : Int32) (σ : Sig) (q : Xe) (hF : f11_firstDay p1 σ = some q) : MXi l SX Γ ad A yX11_firstDay cX11_firstDay 2 (some .int) 7 111 1 [.ref (ad 0 0), .int p1] σ q := by
  refine MXi.of (by decide) (Nat.le_of_ble_eq_true rfl) ?_
  intro p e s m args below meth c ls cx hnt hr hk hP hl
  have hl : lv_has ls 2 [(0, .ref (ad 0 0)), (1, .int p1)] := hl
  rw [f11_firstDay] at hF
  refine r_aload_n cx dX11_firstDay_0 (lv_at hl 0 rfl) ?_
  refine r_iload_n cx dX11_firstDay_1 (lv_at hl 1 rfl) ?_
  refine x_callVv cx hP hnt hk (As := [.int p1]) hF (fun z hz => w11_requirePass l hst Γ ad A p1 σ z hz) mw11_151 ⟨Nat.le_of_ble_eq_true rfl, Nat.le_of_ble_eq_true rfl⟩ (dXr (by decide)) rfl rfl rfl (Nat.le_of_ble_eq_true rfl) hl.1 ⟨Nat.le_of_ble_eq_true rfl, Nat.le_of_ble_eq_true rfl⟩ ⟨Nat.le_of_ble_eq_true rfl, Nat.le_of_ble_eq_true rfl⟩ dX11_firstDay_2 (fun v1 s2 H locs hP hF => ?_)
  refine r_aload_n cx dX11_firstDay_5 (lv_at hl 0 rfl) ?_
  refine gf11_12 cx hP dX11_firstDay_6 ?_
  refine gf11_79 cx hP (by decide : 8 < 11) dX11_firstDay_9 ?_
  refine gf11_267 cx hP (by decide : 8 < 11) dX11_firstDay_12 ?_
  refine r_iload_n cx dX11_firstDay_15 (lv_at hl 1 rfl) ?_
  refine r_iald cx hP (dXg (by decide : 8 < 11) (by decide)) rfl dX11_firstDay_16 hF (fun v3 hF => ?_)
  exact x_iret cx hP hr hk ⟨Nat.le_of_ble_eq_true rfl, Nat.le_of_ble_eq_true rfl⟩ dX11_firstDay_17 hF
set_option maxHeartbeats 4000000 in
set_option maxRecDepth 100000 in
theorem w11_lastDay (l : Launch) (hst : l.stackTraces = false) (Γ : Wc) (ad : Nat → Nat → Nat) (A : Nat → Prop) (p1 : Int32) (σ : Sig) (q : Xe) (hF : f11_lastDay p1 σ = some q) : MXi l SX Γ ad A yX11_lastDay cX11_lastDay 2 (some .int) 7 111 1 [.ref (ad 0 0), .int p1] σ q := by
  refine MXi.of (by decide) (Nat.le_of_ble_eq_true rfl) ?_
  intro p e s m args below meth c ls cx hnt hr hk hP hl
  have hl : lv_has ls 2 [(0, .ref (ad 0 0)), (1, .int p1)] := hl
  rw [f11_lastDay] at hF
  refine r_aload_n cx dX11_lastDay_0 (lv_at hl 0 rfl) ?_
  refine r_iload_n cx dX11_lastDay_1 (lv_at hl 1 rfl) ?_
  refine x_callVv cx hP hnt hk (As := [.int p1]) hF (fun z hz => w11_requirePass l hst Γ ad A p1 σ z hz) mw11_151 ⟨Nat.le_of_ble_eq_true rfl, Nat.le_of_ble_eq_true rfl⟩ (dXr (by decide)) rfl rfl rfl (Nat.le_of_ble_eq_true rfl) hl.1 ⟨Nat.le_of_ble_eq_true rfl, Nat.le_of_ble_eq_true rfl⟩ ⟨Nat.le_of_ble_eq_true rfl, Nat.le_of_ble_eq_true rfl⟩ dX11_lastDay_2 (fun v1 s2 H locs hP hF => ?_)
  refine r_aload_n cx dX11_lastDay_5 (lv_at hl 0 rfl) ?_
  refine gf11_12 cx hP dX11_lastDay_6 ?_
  refine gf11_79 cx hP (by decide : 8 < 11) dX11_lastDay_9 ?_
  refine r_iload_n cx dX11_lastDay_12 (lv_at hl 1 rfl) ?_
  obtain ⟨v3, hc, hF⟩ := bnd_some hF
  refine r_callVi cx hP (As := [.int p1]) (w7_finalDay l Γ ad A 8 (by decide : 8 < 11) p1 s2 v3 hc) mw11_270 ⟨Nat.le_of_ble_eq_true rfl, Nat.le_of_ble_eq_true rfl⟩ (dXg (by decide : 8 < 11) (by decide)) rfl rfl rfl (Nat.le_of_ble_eq_true rfl) hl.1 ⟨Nat.le_of_ble_eq_true rfl, Nat.le_of_ble_eq_true rfl⟩ dX11_lastDay_13 (fun H locs hP => ?_)
  exact x_iret cx hP hr hk ⟨Nat.le_of_ble_eq_true rfl, Nat.le_of_ble_eq_true rfl⟩ dX11_lastDay_16 hF
set_option maxHeartbeats 4000000 in
set_option maxRecDepth 100000 in
theorem w11_priceOf (l : Launch) (hst : l.stackTraces = false) (Γ : Wc) (ad : Nat → Nat → Nat) (A : Nat → Prop) (p1 : Int32) (σ : Sig) (q : Xe) (hF : f11_priceOf p1 σ = some q) : MXi l SX Γ ad A yX11_priceOf cX11_priceOf 2 (some .int) 7 111 1 [.ref (ad 0 0), .int p1] σ q := by
  refine MXi.of (by decide) (Nat.le_of_ble_eq_true rfl) ?_
  intro p e s m args below meth c ls cx hnt hr hk hP hl
  have hl : lv_has ls 2 [(0, .ref (ad 0 0)), (1, .int p1)] := hl
  rw [f11_priceOf] at hF
  refine r_aload_n cx dX11_priceOf_0 (lv_at hl 0 rfl) ?_
  refine r_iload_n cx dX11_priceOf_1 (lv_at hl 1 rfl) ?_
  refine x_callVv cx hP hnt hk (As := [.int p1]) hF (fun z hz => w11_requirePass l hst Γ ad A p1 σ z hz) mw11_151 ⟨Nat.le_of_ble_eq_true rfl, Nat.le_of_ble_eq_true rfl⟩ (dXr (by decide)) rfl rfl rfl (Nat.le_of_ble_eq_true rfl) hl.1 ⟨Nat.le_of_ble_eq_true rfl, Nat.le_of_ble_eq_true rfl⟩ ⟨Nat.le_of_ble_eq_true rfl, Nat.le_of_ble_eq_true rfl⟩ dX11_priceOf_2 (fun v1 s2 H locs hP hF => ?_)
  refine r_aload_n cx dX11_priceOf_5 (lv_at hl 0 rfl) ?_
  refine gf11_12 cx hP dX11_priceOf_6 ?_
  refine gf11_79 cx hP (by decide : 8 < 11) dX11_priceOf_9 ?_
  refine gf11_273 cx hP (by decide : 8 < 11) dX11_priceOf_12 ?_
  refine r_iload_n cx dX11_priceOf_15 (lv_at hl 1 rfl) ?_
  refine r_iald cx hP (dXg (by decide : 8 < 11) (by decide)) rfl dX11_priceOf_16 hF (fun v3 hF => ?_)
  exact x_iret cx hP hr hk ⟨Nat.le_of_ble_eq_true rfl, Nat.le_of_ble_eq_true rfl⟩ dX11_priceOf_17 hF
set_option maxHeartbeats 4000000 in
set_option maxRecDepth 100000 in
theorem w11_cardOf (l : Launch) (hst : l.stackTraces = false) (Γ : Wc) (ad : Nat → Nat → Nat) (A : Nat → Prop) (p1 : Int32) (σ : Sig) (q : Xe) (hF : f11_cardOf p1 σ = some q) : MXi l SX Γ ad A yX11_cardOf cX11_cardOf 2 (some .int) 7 111 1 [.ref (ad 0 0), .int p1] σ q := by
  refine MXi.of (by decide) (Nat.le_of_ble_eq_true rfl) ?_
  intro p e s m args below meth c ls cx hnt hr hk hP hl
  have hl : lv_has ls 2 [(0, .ref (ad 0 0)), (1, .int p1)] := hl
  rw [f11_cardOf] at hF
  refine r_aload_n cx dX11_cardOf_0 (lv_at hl 0 rfl) ?_
  refine r_iload_n cx dX11_cardOf_1 (lv_at hl 1 rfl) ?_
  refine x_callVv cx hP hnt hk (As := [.int p1]) hF (fun z hz => w11_requirePass l hst Γ ad A p1 σ z hz) mw11_151 ⟨Nat.le_of_ble_eq_true rfl, Nat.le_of_ble_eq_true rfl⟩ (dXr (by decide)) rfl rfl rfl (Nat.le_of_ble_eq_true rfl) hl.1 ⟨Nat.le_of_ble_eq_true rfl, Nat.le_of_ble_eq_true rfl⟩ ⟨Nat.le_of_ble_eq_true rfl, Nat.le_of_ble_eq_true rfl⟩ dX11_cardOf_2 (fun v1 s2 H locs hP hF => ?_)
  refine r_aload_n cx dX11_cardOf_5 (lv_at hl 0 rfl) ?_
  refine gf11_12 cx hP dX11_cardOf_6 ?_
  refine gf11_79 cx hP (by decide : 8 < 11) dX11_cardOf_9 ?_
  refine gf11_274 cx hP (by decide : 8 < 11) dX11_cardOf_12 ?_
  refine r_iload_n cx dX11_cardOf_15 (lv_at hl 1 rfl) ?_
  refine r_iald cx hP (dXg (by decide : 8 < 11) (by decide)) rfl dX11_cardOf_16 hF (fun v3 hF => ?_)
  exact x_iret cx hP hr hk ⟨Nat.le_of_ble_eq_true rfl, Nat.le_of_ble_eq_true rfl⟩ dX11_cardOf_17 hF
set_option maxHeartbeats 4000000 in
set_option maxRecDepth 100000 in
theorem w11_isReturned (l : Launch) (hst : l.stackTraces = false) (Γ : Wc) (ad : Nat → Nat → Nat) (A : Nat → Prop) (p1 : Int32) (σ : Sig) (q : Xe) (hF : f11_isReturned p1 σ = some q) : MXi l SX Γ ad A yX11_isReturned cX11_isReturned 2 (some .boolean) 7 111 1 [.ref (ad 0 0), .int p1] σ q := by
  refine MXi.of (by decide) (Nat.le_of_ble_eq_true rfl) ?_
  intro p e s m args below meth c ls cx hnt hr hk hP hl
  have hl : lv_has ls 2 [(0, .ref (ad 0 0)), (1, .int p1)] := hl
  rw [f11_isReturned] at hF
  refine r_aload_n cx dX11_isReturned_0 (lv_at hl 0 rfl) ?_
  refine r_iload_n cx dX11_isReturned_1 (lv_at hl 1 rfl) ?_
  refine x_callVv cx hP hnt hk (As := [.int p1]) hF (fun z hz => w11_requirePass l hst Γ ad A p1 σ z hz) mw11_151 ⟨Nat.le_of_ble_eq_true rfl, Nat.le_of_ble_eq_true rfl⟩ (dXr (by decide)) rfl rfl rfl (Nat.le_of_ble_eq_true rfl) hl.1 ⟨Nat.le_of_ble_eq_true rfl, Nat.le_of_ble_eq_true rfl⟩ ⟨Nat.le_of_ble_eq_true rfl, Nat.le_of_ble_eq_true rfl⟩ dX11_isReturned_2 (fun v1 s2 H locs hP hF => ?_)
  refine r_aload_n cx dX11_isReturned_5 (lv_at hl 0 rfl) ?_
  refine gf11_12 cx hP dX11_isReturned_6 ?_
  refine gf11_79 cx hP (by decide : 8 < 11) dX11_isReturned_9 ?_
  refine gf11_184 cx hP (by decide : 8 < 11) dX11_isReturned_12 ?_
  refine r_iload_n cx dX11_isReturned_15 (lv_at hl 1 rfl) ?_
  refine r_zald cx hP (dXg (by decide : 8 < 11) (by decide)) rfl dX11_isReturned_16 hF (fun v3 hF => ?_)
  exact x_zret cx hP hr hk (nar_gz (gz_some hF).1) ⟨Nat.le_of_ble_eq_true rfl, Nat.le_of_ble_eq_true rfl⟩ dX11_isReturned_17 (gz_some hF).2
set_option maxHeartbeats 4000000 in
set_option maxRecDepth 100000 in
theorem w7_countUsedDays (l : Launch) (Γ : Wc) (ad : Nat → Nat → Nat) (A : Nat → Prop) (n : Nat) (hn : n < 11) (p1 : Int32) (σ : Sig) (r : Int32) (hF : f7_countUsedDays n p1 σ = some r) : MI l SX Γ ad A yX7_countUsedDays cX7_countUsedDays 2 (some .int) 1 20 [.ref (ad (n + 1) 4), .int p1] σ r σ := by
  refine MI.of (by decide) (Nat.le_of_ble_eq_true rfl) ?_
  intro p e s m args below meth c ls cx hr hk hP hl
  have hl : lv_has ls 2 [(0, .ref (ad (n + 1) 4)), (1, .int p1)] := hl
  rw [f7_countUsedDays] at hF
  refine r_aload_n cx dX7_countUsedDays_0 (lv_at hl 0 rfl) ?_
  refine gf7_34 cx hP hn dX7_countUsedDays_1 ?_
  refine r_iload_n cx dX7_countUsedDays_4 (lv_at hl 1 rfl) ?_
  refine r_iald cx hP (dXg hn (by decide)) rfl dX7_countUsedDays_5 hF (fun v1 hF => ?_)
  refine r_bitc cx hP mw7_59 ⟨Nat.le_of_ble_eq_true rfl, Nat.le_of_ble_eq_true rfl⟩ hl.1 (Nat.le_of_ble_eq_true rfl) ⟨Nat.zero_le _, Nat.zero_le _⟩ dX7_countUsedDays_6 hF (fun v2 H locs hP hF => ?_)
  exact r_iret cx hP hr hk dX7_countUsedDays_9 (prF hF)
set_option maxHeartbeats 4000000 in
set_option maxRecDepth 100000 in
theorem w11_usedDays (l : Launch) (hst : l.stackTraces = false) (Γ : Wc) (ad : Nat → Nat → Nat) (A : Nat → Prop) (p1 : Int32) (σ : Sig) (q : Xe) (hF : f11_usedDays p1 σ = some q) : MXi l SX Γ ad A yX11_usedDays cX11_usedDays 2 (some .int) 7 111 1 [.ref (ad 0 0), .int p1] σ q := by
  refine MXi.of (by decide) (Nat.le_of_ble_eq_true rfl) ?_
  intro p e s m args below meth c ls cx hnt hr hk hP hl
  have hl : lv_has ls 2 [(0, .ref (ad 0 0)), (1, .int p1)] := hl
  rw [f11_usedDays] at hF
  refine r_aload_n cx dX11_usedDays_0 (lv_at hl 0 rfl) ?_
  refine r_iload_n cx dX11_usedDays_1 (lv_at hl 1 rfl) ?_
  refine x_callVv cx hP hnt hk (As := [.int p1]) hF (fun z hz => w11_requirePass l hst Γ ad A p1 σ z hz) mw11_151 ⟨Nat.le_of_ble_eq_true rfl, Nat.le_of_ble_eq_true rfl⟩ (dXr (by decide)) rfl rfl rfl (Nat.le_of_ble_eq_true rfl) hl.1 ⟨Nat.le_of_ble_eq_true rfl, Nat.le_of_ble_eq_true rfl⟩ ⟨Nat.le_of_ble_eq_true rfl, Nat.le_of_ble_eq_true rfl⟩ dX11_usedDays_2 (fun v1 s2 H locs hP hF => ?_)
  refine r_aload_n cx dX11_usedDays_5 (lv_at hl 0 rfl) ?_
  refine gf11_12 cx hP dX11_usedDays_6 ?_
  refine gf11_79 cx hP (by decide : 8 < 11) dX11_usedDays_9 ?_
  refine r_iload_n cx dX11_usedDays_12 (lv_at hl 1 rfl) ?_
  obtain ⟨v3, hc, hF⟩ := bnd_some hF
  refine r_callVi cx hP (As := [.int p1]) (w7_countUsedDays l Γ ad A 8 (by decide : 8 < 11) p1 s2 v3 hc) mw11_277 ⟨Nat.le_of_ble_eq_true rfl, Nat.le_of_ble_eq_true rfl⟩ (dXg (by decide : 8 < 11) (by decide)) rfl rfl rfl (Nat.le_of_ble_eq_true rfl) hl.1 ⟨Nat.le_of_ble_eq_true rfl, Nat.le_of_ble_eq_true rfl⟩ dX11_usedDays_13 (fun H locs hP => ?_)
  exact x_iret cx hP hr hk ⟨Nat.le_of_ble_eq_true rfl, Nat.le_of_ble_eq_true rfl⟩ dX11_usedDays_16 hF
set_option maxHeartbeats 4000000 in
set_option maxRecDepth 100000 in
theorem w11_visitsWith (l : Launch) (hst : l.stackTraces = false) (Γ : Wc) (ad : Nat → Nat → Nat) (A : Nat → Prop) (p1 : Int32) (σ : Sig) (q : Xe) (hF : f11_visitsWith p1 σ = some q) : MXi l SX Γ ad A yX11_visitsWith cX11_visitsWith 2 (some .int) 7 111 1 [.ref (ad 0 0), .int p1] σ q := by
  refine MXi.of (by decide) (Nat.le_of_ble_eq_true rfl) ?_
  intro p e s m args below meth c ls cx hnt hr hk hP hl
  have hl : lv_has ls 2 [(0, .ref (ad 0 0)), (1, .int p1)] := hl
  rw [f11_visitsWith] at hF
  refine r_aload_n cx dX11_visitsWith_0 (lv_at hl 0 rfl) ?_
  refine r_iload_n cx dX11_visitsWith_1 (lv_at hl 1 rfl) ?_
  refine x_callVv cx hP hnt hk (As := [.int p1]) hF (fun z hz => w11_requirePass l hst Γ ad A p1 σ z hz) mw11_151 ⟨Nat.le_of_ble_eq_true rfl, Nat.le_of_ble_eq_true rfl⟩ (dXr (by decide)) rfl rfl rfl (Nat.le_of_ble_eq_true rfl) hl.1 ⟨Nat.le_of_ble_eq_true rfl, Nat.le_of_ble_eq_true rfl⟩ ⟨Nat.le_of_ble_eq_true rfl, Nat.le_of_ble_eq_true rfl⟩ dX11_visitsWith_2 (fun v1 s2 H locs hP hF => ?_)
  refine r_aload_n cx dX11_visitsWith_5 (lv_at hl 0 rfl) ?_
  refine gf11_12 cx hP dX11_visitsWith_6 ?_
  refine gf11_79 cx hP (by decide : 8 < 11) dX11_visitsWith_9 ?_
  refine gf11_280 cx hP (by decide : 8 < 11) dX11_visitsWith_12 ?_
  refine r_iload_n cx dX11_visitsWith_15 (lv_at hl 1 rfl) ?_
  refine r_iald cx hP (dXg (by decide : 8 < 11) (by decide)) rfl dX11_visitsWith_16 hF (fun v3 hF => ?_)
  exact x_iret cx hP hr hk ⟨Nat.le_of_ble_eq_true rfl, Nat.le_of_ble_eq_true rfl⟩ dX11_visitsWith_17 hF
set_option maxHeartbeats 4000000 in
set_option maxRecDepth 100000 in
theorem w11_refundOf (l : Launch) (hst : l.stackTraces = false) (Γ : Wc) (ad : Nat → Nat → Nat) (A : Nat → Prop) (p1 : Int32) (σ : Sig) (q : Xe) (hF : f11_refundOf p1 σ = some q) : MXi l SX Γ ad A yX11_refundOf cX11_refundOf 2 (some .int) 7 111 1 [.ref (ad 0 0), .int p1] σ q := by
  refine MXi.of (by decide) (Nat.le_of_ble_eq_true rfl) ?_
  intro p e s m args below meth c ls cx hnt hr hk hP hl
  have hl : lv_has ls 2 [(0, .ref (ad 0 0)), (1, .int p1)] := hl
  rw [f11_refundOf] at hF
  refine r_aload_n cx dX11_refundOf_0 (lv_at hl 0 rfl) ?_
  refine r_iload_n cx dX11_refundOf_1 (lv_at hl 1 rfl) ?_
  refine x_callVv cx hP hnt hk (As := [.int p1]) hF (fun z hz => w11_requirePass l hst Γ ad A p1 σ z hz) mw11_151 ⟨Nat.le_of_ble_eq_true rfl, Nat.le_of_ble_eq_true rfl⟩ (dXr (by decide)) rfl rfl rfl (Nat.le_of_ble_eq_true rfl) hl.1 ⟨Nat.le_of_ble_eq_true rfl, Nat.le_of_ble_eq_true rfl⟩ ⟨Nat.le_of_ble_eq_true rfl, Nat.le_of_ble_eq_true rfl⟩ dX11_refundOf_2 (fun v1 s2 H locs hP hF => ?_)
  refine r_aload_n cx dX11_refundOf_5 (lv_at hl 0 rfl) ?_
  refine gf11_12 cx hP dX11_refundOf_6 ?_
  refine r_iload_n cx dX11_refundOf_9 (lv_at hl 1 rfl) ?_
  obtain ⟨v3, hc, hF⟩ := bnd_some hF
  refine r_callVi cx hP (As := [.int p1]) (w4_refundNow l Γ ad A 8 (by decide : 8 < 11) p1 s2 v3 hc) mw11_281 ⟨Nat.le_of_ble_eq_true rfl, Nat.le_of_ble_eq_true rfl⟩ (dXg (by decide : 8 < 11) (by decide)) rfl rfl rfl (Nat.le_of_ble_eq_true rfl) hl.1 ⟨Nat.le_of_ble_eq_true rfl, Nat.le_of_ble_eq_true rfl⟩ dX11_refundOf_10 (fun H locs hP => ?_)
  exact x_iret cx hP hr hk ⟨Nat.le_of_ble_eq_true rfl, Nat.le_of_ble_eq_true rfl⟩ dX11_refundOf_13 hF
set_option maxHeartbeats 4000000 in
set_option maxRecDepth 100000 in
theorem w11_owed (l : Launch) (hst : l.stackTraces = false) (Γ : Wc) (ad : Nat → Nat → Nat) (A : Nat → Prop) (p1 : Int32) (σ : Sig) (q : Xe) (hF : f11_owed p1 σ = some q) : MXi l SX Γ ad A yX11_owed cX11_owed 2 (some .int) 7 111 1 [.ref (ad 0 0), .int p1] σ q := by
  refine MXi.of (by decide) (Nat.le_of_ble_eq_true rfl) ?_
  intro p e s m args below meth c ls cx hnt hr hk hP hl
  have hl : lv_has ls 2 [(0, .ref (ad 0 0)), (1, .int p1)] := hl
  rw [f11_owed] at hF
  refine r_aload_n cx dX11_owed_0 (lv_at hl 0 rfl) ?_
  refine r_iload_n cx dX11_owed_1 (lv_at hl 1 rfl) ?_
  refine x_callVv cx hP hnt hk (As := [.int p1]) hF (fun z hz => w11_requirePass l hst Γ ad A p1 σ z hz) mw11_151 ⟨Nat.le_of_ble_eq_true rfl, Nat.le_of_ble_eq_true rfl⟩ (dXr (by decide)) rfl rfl rfl (Nat.le_of_ble_eq_true rfl) hl.1 ⟨Nat.le_of_ble_eq_true rfl, Nat.le_of_ble_eq_true rfl⟩ ⟨Nat.le_of_ble_eq_true rfl, Nat.le_of_ble_eq_true rfl⟩ dX11_owed_2 (fun v1 s2 H locs hP hF => ?_)
  refine r_aload_n cx dX11_owed_5 (lv_at hl 0 rfl) ?_
  refine gf11_12 cx hP dX11_owed_6 ?_
  refine gf11_79 cx hP (by decide : 8 < 11) dX11_owed_9 ?_
  refine gf11_207 cx hP (by decide : 8 < 11) dX11_owed_12 ?_
  refine r_iload_n cx dX11_owed_15 (lv_at hl 1 rfl) ?_
  refine r_iald cx hP (dXg (by decide : 8 < 11) (by decide)) rfl dX11_owed_16 hF (fun v3 hF => ?_)
  exact x_iret cx hP hr hk ⟨Nat.le_of_ble_eq_true rfl, Nat.le_of_ble_eq_true rfl⟩ dX11_owed_17 hF
set_option maxHeartbeats 4000000 in
set_option maxRecDepth 100000 in
theorem w11_ticksUntilReady (l : Launch) (hst : l.stackTraces = false) (Γ : Wc) (ad : Nat → Nat → Nat) (A : Nat → Prop) (p1 : Int32) (σ : Sig) (q : Xe) (hF : f11_ticksUntilReady p1 σ = some q) : MXi l SX Γ ad A yX11_ticksUntilReady cX11_ticksUntilReady 2 (some .int) 7 111 1 [.ref (ad 0 0), .int p1] σ q := by
  refine MXi.of (by decide) (Nat.le_of_ble_eq_true rfl) ?_
  intro p e s m args below meth c ls cx hnt hr hk hP hl
  have hl : lv_has ls 2 [(0, .ref (ad 0 0)), (1, .int p1)] := hl
  rw [f11_ticksUntilReady] at hF
  refine r_aload_n cx dX11_ticksUntilReady_0 (lv_at hl 0 rfl) ?_
  refine r_iload_n cx dX11_ticksUntilReady_1 (lv_at hl 1 rfl) ?_
  refine x_callVv cx hP hnt hk (As := [.int p1]) hF (fun z hz => w11_requirePass l hst Γ ad A p1 σ z hz) mw11_151 ⟨Nat.le_of_ble_eq_true rfl, Nat.le_of_ble_eq_true rfl⟩ (dXr (by decide)) rfl rfl rfl (Nat.le_of_ble_eq_true rfl) hl.1 ⟨Nat.le_of_ble_eq_true rfl, Nat.le_of_ble_eq_true rfl⟩ ⟨Nat.le_of_ble_eq_true rfl, Nat.le_of_ble_eq_true rfl⟩ dX11_ticksUntilReady_2 (fun v1 s2 H locs hP hF => ?_)
  refine r_aload_n cx dX11_ticksUntilReady_5 (lv_at hl 0 rfl) ?_
  refine gf11_12 cx hP dX11_ticksUntilReady_6 ?_
  refine r_iload_n cx dX11_ticksUntilReady_9 (lv_at hl 1 rfl) ?_
  obtain ⟨v3, hc, hF⟩ := bnd_some hF
  refine r_callVi cx hP (As := [.int p1]) (w4_waitForNextVisit l Γ ad A 8 (by decide : 8 < 11) p1 s2 v3 hc) mw11_284 ⟨Nat.le_of_ble_eq_true rfl, Nat.le_of_ble_eq_true rfl⟩ (dXg (by decide : 8 < 11) (by decide)) rfl rfl rfl (Nat.le_of_ble_eq_true rfl) hl.1 ⟨Nat.le_of_ble_eq_true rfl, Nat.le_of_ble_eq_true rfl⟩ dX11_ticksUntilReady_10 (fun H locs hP => ?_)
  exact x_iret cx hP hr hk ⟨Nat.le_of_ble_eq_true rfl, Nat.le_of_ble_eq_true rfl⟩ dX11_ticksUntilReady_13 hF
set_option maxHeartbeats 4000000 in
set_option maxRecDepth 100000 in
theorem w11_cardCount (l : Launch) (Γ : Wc) (ad : Nat → Nat → Nat) (A : Nat → Prop)  (σ : Sig) (r : Int32) (hF : f11_cardCount  σ = some r) : MI l SX Γ ad A yX11_cardCount cX11_cardCount 1 (some .int) 0 0 [.ref (ad 0 0)] σ r σ := by
  refine MI.of (by decide) (Nat.le_of_ble_eq_true rfl) ?_
  intro p e s m args below meth c ls cx hr hk hP hl
  have hl : lv_has ls 1 [(0, .ref (ad 0 0))] := hl
  rw [f11_cardCount] at hF
  refine r_aload_n cx dX11_cardCount_0 (lv_at hl 0 rfl) ?_
  refine gf11_12 cx hP dX11_cardCount_1 ?_
  refine gf11_287 cx hP (by decide : 8 < 11) dX11_cardCount_4 ?_
  refine gf11_291 cx hP (by decide : 8 < 11) dX11_cardCount_7 hF (fun v1 hF => ?_)
  exact r_iret cx hP hr hk dX11_cardCount_10 (prF hF)
set_option maxHeartbeats 4000000 in
set_option maxRecDepth 100000 in
theorem w11_passOf (l : Launch) (hst : l.stackTraces = false) (Γ : Wc) (ad : Nat → Nat → Nat) (A : Nat → Prop) (p1 : Int32) (σ : Sig) (q : Xe) (hF : f11_passOf p1 σ = some q) : MXi l SX Γ ad A yX11_passOf cX11_passOf 2 (some .int) 7 111 1 [.ref (ad 0 0), .int p1] σ q := by
  refine MXi.of (by decide) (Nat.le_of_ble_eq_true rfl) ?_
  intro p e s m args below meth c ls cx hnt hr hk hP hl
  have hl : lv_has ls 2 [(0, .ref (ad 0 0)), (1, .int p1)] := hl
  rw [f11_passOf] at hF
  refine r_aload_n cx dX11_passOf_0 (lv_at hl 0 rfl) ?_
  refine r_iload_n cx dX11_passOf_1 (lv_at hl 1 rfl) ?_
  refine x_callVv cx hP hnt hk (As := [.int p1]) hF (fun z hz => w11_requireCard l hst Γ ad A p1 σ z hz) mw11_191 ⟨Nat.le_of_ble_eq_true rfl, Nat.le_of_ble_eq_true rfl⟩ (dXr (by decide)) rfl rfl rfl (Nat.le_of_ble_eq_true rfl) hl.1 ⟨Nat.le_of_ble_eq_true rfl, Nat.le_of_ble_eq_true rfl⟩ ⟨Nat.le_of_ble_eq_true rfl, Nat.le_of_ble_eq_true rfl⟩ dX11_passOf_2 (fun v1 s2 H locs hP hF => ?_)
  refine r_aload_n cx dX11_passOf_5 (lv_at hl 0 rfl) ?_
  refine gf11_12 cx hP dX11_passOf_6 ?_
  refine gf11_287 cx hP (by decide : 8 < 11) dX11_passOf_9 ?_
  refine gf11_294 cx hP (by decide : 8 < 11) dX11_passOf_12 ?_
  refine r_iload_n cx dX11_passOf_15 (lv_at hl 1 rfl) ?_
  refine r_iald cx hP (dXg (by decide : 8 < 11) (by decide)) rfl dX11_passOf_16 hF (fun v3 hF => ?_)
  exact x_iret cx hP hr hk ⟨Nat.le_of_ble_eq_true rfl, Nat.le_of_ble_eq_true rfl⟩ dX11_passOf_17 hF
set_option maxHeartbeats 4000000 in
set_option maxRecDepth 100000 in
theorem w11_isBlocked (l : Launch) (hst : l.stackTraces = false) (Γ : Wc) (ad : Nat → Nat → Nat) (A : Nat → Prop) (p1 : Int32) (σ : Sig) (q : Xe) (hF : f11_isBlocked p1 σ = some q) : MXi l SX Γ ad A yX11_isBlocked cX11_isBlocked 2 (some .boolean) 7 111 1 [.ref (ad 0 0), .int p1] σ q := by
  refine MXi.of (by decide) (Nat.le_of_ble_eq_true rfl) ?_
  intro p e s m args below meth c ls cx hnt hr hk hP hl
  have hl : lv_has ls 2 [(0, .ref (ad 0 0)), (1, .int p1)] := hl
  rw [f11_isBlocked] at hF
  refine r_aload_n cx dX11_isBlocked_0 (lv_at hl 0 rfl) ?_
  refine r_iload_n cx dX11_isBlocked_1 (lv_at hl 1 rfl) ?_
  refine x_callVv cx hP hnt hk (As := [.int p1]) hF (fun z hz => w11_requireCard l hst Γ ad A p1 σ z hz) mw11_191 ⟨Nat.le_of_ble_eq_true rfl, Nat.le_of_ble_eq_true rfl⟩ (dXr (by decide)) rfl rfl rfl (Nat.le_of_ble_eq_true rfl) hl.1 ⟨Nat.le_of_ble_eq_true rfl, Nat.le_of_ble_eq_true rfl⟩ ⟨Nat.le_of_ble_eq_true rfl, Nat.le_of_ble_eq_true rfl⟩ dX11_isBlocked_2 (fun v1 s2 H locs hP hF => ?_)
  refine r_aload_n cx dX11_isBlocked_5 (lv_at hl 0 rfl) ?_
  refine gf11_12 cx hP dX11_isBlocked_6 ?_
  refine gf11_287 cx hP (by decide : 8 < 11) dX11_isBlocked_9 ?_
  refine gf11_297 cx hP (by decide : 8 < 11) dX11_isBlocked_12 ?_
  refine r_iload_n cx dX11_isBlocked_15 (lv_at hl 1 rfl) ?_
  refine r_zald cx hP (dXg (by decide : 8 < 11) (by decide)) rfl dX11_isBlocked_16 hF (fun v3 hF => ?_)
  exact x_zret cx hP hr hk (nar_gz (gz_some hF).1) ⟨Nat.le_of_ble_eq_true rfl, Nat.le_of_ble_eq_true rfl⟩ dX11_isBlocked_17 (gz_some hF).2
set_option maxHeartbeats 4000000 in
set_option maxRecDepth 100000 in
theorem w11_whyRefused (l : Launch) (hst : l.stackTraces = false) (Γ : Wc) (ad : Nat → Nat → Nat) (A : Nat → Prop) (p1 : Int32) (p2 : Int32) (σ : Sig) (q : Xe) (hF : f11_whyRefused p1 p2 σ = some q) : MXi l SX Γ ad A yX11_whyRefused cX11_whyRefused 3 (some .int) 7 111 2 [.ref (ad 0 0), .int p1, .int p2] σ q := by
  refine MXi.of (by decide) (Nat.le_of_ble_eq_true rfl) ?_
  intro p e s m args below meth c ls cx hnt hr hk hP hl
  have hl : lv_has ls 3 [(0, .ref (ad 0 0)), (1, .int p1), (2, .int p2)] := hl
  rw [f11_whyRefused] at hF
  refine r_aload_n cx dX11_whyRefused_0 (lv_at hl 0 rfl) ?_
  refine r_iload_n cx dX11_whyRefused_1 (lv_at hl 1 rfl) ?_
  refine x_callVv cx hP hnt hk (As := [.int p1]) hF (fun z hz => w11_requireCard l hst Γ ad A p1 σ z hz) mw11_191 ⟨Nat.le_of_ble_eq_true rfl, Nat.le_of_ble_eq_true rfl⟩ (dXr (by decide)) rfl rfl rfl (Nat.le_of_ble_eq_true rfl) hl.1 ⟨Nat.le_of_ble_eq_true rfl, Nat.le_of_ble_eq_true rfl⟩ ⟨Nat.le_of_ble_eq_true rfl, Nat.le_of_ble_eq_true rfl⟩ dX11_whyRefused_2 (fun v1 s2 H locs hP hF => ?_)
  refine r_aload_n cx dX11_whyRefused_5 (lv_at hl 0 rfl) ?_
  refine r_iload_n cx dX11_whyRefused_6 (lv_at hl 2 rfl) ?_
  refine x_callVv cx hP hnt hk (As := [.int p2]) hF (fun z hz => w11_requireBed l hst Γ ad A p2 s2 z hz) mw11_194 ⟨Nat.le_of_ble_eq_true rfl, Nat.le_of_ble_eq_true rfl⟩ (dXr (by decide)) rfl rfl rfl (Nat.le_of_ble_eq_true rfl) hl.1 ⟨Nat.le_of_ble_eq_true rfl, Nat.le_of_ble_eq_true rfl⟩ ⟨Nat.le_of_ble_eq_true rfl, Nat.le_of_ble_eq_true rfl⟩ dX11_whyRefused_7 (fun v3 s4 H locs hP hF => ?_)
  refine r_aload_n cx dX11_whyRefused_10 (lv_at hl 0 rfl) ?_
  refine gf11_12 cx hP dX11_whyRefused_11 ?_
  refine r_iload_n cx dX11_whyRefused_14 (lv_at hl 1 rfl) ?_
  refine r_iload_n cx dX11_whyRefused_15 (lv_at hl 2 rfl) ?_
  obtain ⟨v5, hc, hF⟩ := bnd_some hF
  refine r_callVi cx hP (As := [.int p1, .int p2]) (w4_reasonOfRefusal l Γ ad A 8 (by decide : 8 < 11) p1 p2 s4 v5 hc) mw11_300 ⟨Nat.le_of_ble_eq_true rfl, Nat.le_of_ble_eq_true rfl⟩ (dXg (by decide : 8 < 11) (by decide)) rfl rfl rfl (Nat.le_of_ble_eq_true rfl) hl.1 ⟨Nat.le_of_ble_eq_true rfl, Nat.le_of_ble_eq_true rfl⟩ dX11_whyRefused_16 (fun H locs hP => ?_)
  exact x_iret cx hP hr hk ⟨Nat.le_of_ble_eq_true rfl, Nat.le_of_ble_eq_true rfl⟩ dX11_whyRefused_19 hF
set_option maxHeartbeats 4000000 in
set_option maxRecDepth 100000 in
theorem w11_takings (l : Launch) (Γ : Wc) (ad : Nat → Nat → Nat) (A : Nat → Prop)  (σ : Sig) (r : Int32) (hF : f11_takings  σ = some r) : MI l SX Γ ad A yX11_takings cX11_takings 1 (some .int) 0 0 [.ref (ad 0 0)] σ r σ := by
  refine MI.of (by decide) (Nat.le_of_ble_eq_true rfl) ?_
  intro p e s m args below meth c ls cx hr hk hP hl
  have hl : lv_has ls 1 [(0, .ref (ad 0 0))] := hl
  rw [f11_takings] at hF
  refine r_aload_n cx dX11_takings_0 (lv_at hl 0 rfl) ?_
  refine gf11_12 cx hP dX11_takings_1 ?_
  refine gf11_313 cx hP (by decide : 8 < 11) dX11_takings_4 ?_
  refine gf11_317 cx hP (by decide : 8 < 11) dX11_takings_7 hF (fun v1 hF => ?_)
  refine r_aload_n cx dX11_takings_10 (lv_at hl 0 rfl) ?_
  refine gf11_12 cx hP dX11_takings_11 ?_
  refine gf11_313 cx hP (by decide : 8 < 11) dX11_takings_14 ?_
  refine gf11_322 cx hP (by decide : 8 < 11) dX11_takings_17 hF (fun v2 hF => ?_)
  refine r_isub cx dX11_takings_20 hF (fun v3 hF => ?_)
  exact r_iret cx hP hr hk dX11_takings_21 (prF hF)
set_option maxHeartbeats 4000000 in
set_option maxRecDepth 100000 in
theorem w11_refunds (l : Launch) (Γ : Wc) (ad : Nat → Nat → Nat) (A : Nat → Prop)  (σ : Sig) (r : Int32) (hF : f11_refunds  σ = some r) : MI l SX Γ ad A yX11_refunds cX11_refunds 1 (some .int) 0 0 [.ref (ad 0 0)] σ r σ := by
  refine MI.of (by decide) (Nat.le_of_ble_eq_true rfl) ?_
  intro p e s m args below meth c ls cx hr hk hP hl
  have hl : lv_has ls 1 [(0, .ref (ad 0 0))] := hl
  rw [f11_refunds] at hF
  refine r_aload_n cx dX11_refunds_0 (lv_at hl 0 rfl) ?_
  refine gf11_12 cx hP dX11_refunds_1 ?_
  refine gf11_313 cx hP (by decide : 8 < 11) dX11_refunds_4 ?_
  refine gf11_322 cx hP (by decide : 8 < 11) dX11_refunds_7 hF (fun v1 hF => ?_)
  exact r_iret cx hP hr hk dX11_refunds_10 (prF hF)
set_option maxHeartbeats 4000000 in
set_option maxRecDepth 100000 in
theorem w11_finesPaid (l : Launch) (Γ : Wc) (ad : Nat → Nat → Nat) (A : Nat → Prop)  (σ : Sig) (r : Int32) (hF : f11_finesPaid  σ = some r) : MI l SX Γ ad A yX11_finesPaid cX11_finesPaid 1 (some .int) 0 0 [.ref (ad 0 0)] σ r σ := by
  refine MI.of (by decide) (Nat.le_of_ble_eq_true rfl) ?_
  intro p e s m args below meth c ls cx hr hk hP hl
  have hl : lv_has ls 1 [(0, .ref (ad 0 0))] := hl
  rw [f11_finesPaid] at hF
  refine r_aload_n cx dX11_finesPaid_0 (lv_at hl 0 rfl) ?_
  refine gf11_12 cx hP dX11_finesPaid_1 ?_
  refine gf11_313 cx hP (by decide : 8 < 11) dX11_finesPaid_4 ?_
  refine gf11_325 cx hP (by decide : 8 < 11) dX11_finesPaid_7 hF (fun v1 hF => ?_)
  exact r_iret cx hP hr hk dX11_finesPaid_10 (prF hF)
set_option maxHeartbeats 4000000 in
set_option maxRecDepth 100000 in
theorem w11_plucked (l : Launch) (Γ : Wc) (ad : Nat → Nat → Nat) (A : Nat → Prop)  (σ : Sig) (r : Int32) (hF : f11_plucked  σ = some r) : MI l SX Γ ad A yX11_plucked cX11_plucked 1 (some .int) 0 0 [.ref (ad 0 0)] σ r σ := by
  refine MI.of (by decide) (Nat.le_of_ble_eq_true rfl) ?_
  intro p e s m args below meth c ls cx hr hk hP hl
  have hl : lv_has ls 1 [(0, .ref (ad 0 0))] := hl
  rw [f11_plucked] at hF
  refine r_aload_n cx dX11_plucked_0 (lv_at hl 0 rfl) ?_
  refine gf11_12 cx hP dX11_plucked_1 ?_
  refine gf11_313 cx hP (by decide : 8 < 11) dX11_plucked_4 ?_
  refine gf11_328 cx hP (by decide : 8 < 11) dX11_plucked_7 hF (fun v1 hF => ?_)
  exact r_iret cx hP hr hk dX11_plucked_10 (prF hF)
set_option maxHeartbeats 4000000 in
set_option maxRecDepth 100000 in
theorem w11_alarms (l : Launch) (Γ : Wc) (ad : Nat → Nat → Nat) (A : Nat → Prop)  (σ : Sig) (r : Int32) (hF : f11_alarms  σ = some r) : MI l SX Γ ad A yX11_alarms cX11_alarms 1 (some .int) 0 0 [.ref (ad 0 0)] σ r σ := by
  refine MI.of (by decide) (Nat.le_of_ble_eq_true rfl) ?_
  intro p e s m args below meth c ls cx hr hk hP hl
  have hl : lv_has ls 1 [(0, .ref (ad 0 0))] := hl
  rw [f11_alarms] at hF
  refine r_aload_n cx dX11_alarms_0 (lv_at hl 0 rfl) ?_
  refine gf11_12 cx hP dX11_alarms_1 ?_
  refine gf11_313 cx hP (by decide : 8 < 11) dX11_alarms_4 ?_
  refine gf11_331 cx hP (by decide : 8 < 11) dX11_alarms_7 hF (fun v1 hF => ?_)
  exact r_iret cx hP hr hk dX11_alarms_10 (prF hF)
set_option maxHeartbeats 4000000 in
set_option maxRecDepth 100000 in
theorem w2_isOpenCardOf (l : Launch) (Γ : Wc) (ad : Nat → Nat → Nat) (A : Nat → Prop) (n : Nat) (hn : n < 11) (p1 : Int32) (p2 : Int32) (σ : Sig) (r : Int32) (hF : f2_isOpenCardOf n p1 p2 σ = some r) : MI l SX Γ ad A yX2_isOpenCardOf cX2_isOpenCardOf 3 (some .boolean) 1 21 [.ref (ad (n + 1) 5), .int p1, .int p2] σ r σ := by
  refine MI.of (by decide) (Nat.le_of_ble_eq_true rfl) ?_
  intro p e s m args below meth c ls cx hr hk hP hl
  have hl : lv_has ls 3 [(0, .ref (ad (n + 1) 5)), (1, .int p1), (2, .int p2)] := hl
  rw [f2_isOpenCardOf] at hF
  refine r_aload_n cx dX2_isOpenCardOf_0 (lv_at hl 0 rfl) ?_
  refine r_iload_n cx dX2_isOpenCardOf_1 (lv_at hl 1 rfl) ?_
  obtain ⟨v1, hc, hF⟩ := bnd_some hF
  refine r_callVi cx hP (As := [.int p1]) (w2_has l Γ ad A n hn p1 σ v1 hc) mw2_29 ⟨Nat.le_of_ble_eq_true rfl, Nat.le_of_ble_eq_true rfl⟩ (dXg hn (by decide)) rfl rfl rfl (Nat.le_of_ble_eq_true rfl) hl.1 ⟨Nat.zero_le _, Nat.zero_le _⟩ dX2_isOpenCardOf_2 (fun H locs hP => ?_)
  refine r_if_eq cx 31 dX2_isOpenCardOf_5 (by decide) hF (fun hF => ?_) (fun hF => ?_)
  · refine r_iconst cx 0 dX2_isOpenCardOf_31 (by decide) ?_
    exact r_zret cx hP hr hk (by decide) dX2_isOpenCardOf_32 (prF hF)
  · refine r_aload_n cx dX2_isOpenCardOf_8 (lv_at hl 0 rfl) ?_
    refine gf2_15 cx hP hn dX2_isOpenCardOf_9 ?_
    refine r_iload_n cx dX2_isOpenCardOf_12 (lv_at hl 1 rfl) ?_
    refine r_zald cx hP (dXg hn (by decide)) rfl dX2_isOpenCardOf_13 hF (fun v2 hF => ?_)
    refine r_if_ne cx 31 dX2_isOpenCardOf_14 (by decide) hF (fun hF => ?_) (fun hF => ?_)
    · refine r_iconst cx 0 dX2_isOpenCardOf_31 (by decide) ?_
      exact r_zret cx hP hr hk (by decide) dX2_isOpenCardOf_32 (prF hF)
    · refine r_aload_n cx dX2_isOpenCardOf_17 (lv_at hl 0 rfl) ?_
      refine gf2_9 cx hP hn dX2_isOpenCardOf_18 ?_
      refine r_iload_n cx dX2_isOpenCardOf_21 (lv_at hl 1 rfl) ?_
      refine r_iald cx hP (dXg hn (by decide)) rfl dX2_isOpenCardOf_22 hF (fun v3 hF => ?_)
      refine r_iload_n cx dX2_isOpenCardOf_23 (lv_at hl 2 rfl) ?_
      refine r_icmp_ne cx 31 dX2_isOpenCardOf_24 (by decide) hF (fun hF => ?_) (fun hF => ?_)
      · refine r_iconst cx 0 dX2_isOpenCardOf_31 (by decide) ?_
        exact r_zret cx hP hr hk (by decide) dX2_isOpenCardOf_32 (prF hF)
      · refine r_iconst cx 1 dX2_isOpenCardOf_27 (by decide) ?_
        refine r_goto cx 32 dX2_isOpenCardOf_28 (by decide) ?_
        exact r_zret cx hP hr hk (by decide) dX2_isOpenCardOf_32 (prF hF)
set_option maxHeartbeats 4000000 in
set_option maxRecDepth 100000 in
theorem w4_countWrongPasses (l : Launch) (Γ : Wc) (ad : Nat → Nat → Nat) (A : Nat → Prop) (n : Nat) (hn : n < 11) (σ : Sig) (r : Int32) (hF : f4_countWrongPasses n σ = some r) : MI l SX Γ ad A yX4_countWrongPasses cX4_countWrongPasses 3 (some .int) 2 43 [.ref (ad (n + 1) 0)] σ r σ := by
  refine MI.of (by decide) (Nat.le_of_ble_eq_true rfl) ?_
  intro p e s m args below meth c ls cx hr hk hP hl
  have hl : lv_has ls 3 [(0, .ref (ad (n + 1) 0))] := hl
  rw [f4_countWrongPasses] at hF
  generalize hH0 : s.heap = H0 at hP ⊢
  generalize ([] : List Loc) = locs0 at hP ⊢
  clear hH0
  have b98 : ∀ (rc : Int32 → Int32 → Sig → Option (Int32)) (ih : ∀ (x1 : Int32) (x2 : Int32) (H : Heap) (locs : List Loc) (ls : Array Slot), PS SX Γ ad A s σ H locs → lv_has ls 3 [(0, .ref (ad (n + 1) 0)), (1, .int x1), (2, .int x2)] → rc x1 x2 σ = some r → W p l e (rmz 2 43) s m args below meth c H locs 0 0 (QI SX Γ ad A below args s r σ) (F0 m 4 ls [])) (x1 : Int32) (x2 : Int32) (H : Heap) (locs : List Loc) (ls : Array Slot), PS SX Γ ad A s σ H locs → lv_has ls 3 [(0, .ref (ad (n + 1) 0)), (1, .int x1), (2, .int x2)] → f4_countWrongPasses_b98 n rc x1 x2 σ = some r → W p l e (rmz 2 43) s m args below meth c H locs 0 0 (QI SX Γ ad A below args s r σ) (F0 m 98 ls []) := by
    intro rc ih x1 x2 H locs ls hP hl hF
    rw [f4_countWrongPasses_b98] at hF
    refine r_iinc cx (k := 2) (w := 1) (fun v1 => [(2, .int v1), (0, .ref (ad (n + 1) 0)), (1, .int x1)]) dX4_countWrongPasses_98 hl rfl (by decide) (by decide) hF (fun _ => rfl) (fun v1 ls hF hl => ?_)
    refine r_goto cx 4 dX4_countWrongPasses_101 (by decide) ?_
    exact ih x1 v1 _ _ _ hP (lv_sub hl [1, 2, 0] rfl) hF
  have b72 : ∀ (rc : Int32 → Int32 → Sig → Option (Int32)) (ih : ∀ (x1 : Int32) (x2 : Int32) (H : Heap) (locs : List Loc) (ls : Array Slot), PS SX Γ ad A s σ H locs → lv_has ls 3 [(0, .ref (ad (n + 1) 0)), (1, .int x1), (2, .int x2)] → rc x1 x2 σ = some r → W p l e (rmz 2 43) s m args below meth c H locs 0 0 (QI SX Γ ad A below args s r σ) (F0 m 4 ls [])) (x1 : Int32) (x2 : Int32) (H : Heap) (locs : List Loc) (ls : Array Slot), PS SX Γ ad A s σ H locs → lv_has ls 3 [(0, .ref (ad (n + 1) 0)), (1, .int x1), (2, .int x2)] → f4_countWrongPasses_b72 n rc x1 x2 σ = some r → W p l e (rmz 2 43) s m args below meth c H locs 0 0 (QI SX Γ ad A below args s r σ) (F0 m 72 ls []) := by
    intro rc ih x1 x2 H locs ls hP hl hF
    rw [f4_countWrongPasses_b72] at hF
    refine r_aload_n cx dX4_countWrongPasses_72 (lv_at hl 0 rfl) ?_
    refine gf4_35 cx hP hn dX4_countWrongPasses_73 ?_
    refine r_iload_n cx dX4_countWrongPasses_76 (lv_at hl 2 rfl) ?_
    obtain ⟨v2, hc, hF⟩ := bnd_some hF
    refine r_callVi cx hP (As := [.int x2]) (w7_hasCard l Γ ad A n hn x2 σ v2 hc) mw4_155 ⟨Nat.le_of_ble_eq_true rfl, Nat.le_of_ble_eq_true rfl⟩ (dXg hn (by decide)) rfl rfl rfl (Nat.le_of_ble_eq_true rfl) hl.1 ⟨Nat.zero_le _, Nat.zero_le _⟩ dX4_countWrongPasses_77 (fun H locs hP => ?_)
    refine r_if_eq cx 98 dX4_countWrongPasses_80 (by decide) hF (fun hF => ?_) (fun hF => ?_)
    · exact b98 rc ih x1 x2 _ _ _ hP (lv_sub hl [0, 1, 2] rfl) hF
    · refine r_aload_n cx dX4_countWrongPasses_83 (lv_at hl 0 rfl) ?_
      refine gf4_35 cx hP hn dX4_countWrongPasses_84 ?_
      refine gf4_123 cx hP hn dX4_countWrongPasses_87 ?_
      refine r_iload_n cx dX4_countWrongPasses_90 (lv_at hl 2 rfl) ?_
      refine r_zald cx hP (dXg hn (by decide)) rfl dX4_countWrongPasses_91 hF (fun v3 hF => ?_)
      refine r_if_eq cx 98 dX4_countWrongPasses_92 (by decide) hF (fun hF => ?_) (fun hF => ?_)
      · exact b98 rc ih x1 x2 _ _ _ hP (lv_sub hl [0, 1, 2] rfl) hF
      · refine r_iinc cx (k := 1) (w := 1) (fun v4 => [(1, .int v4), (0, .ref (ad (n + 1) 0)), (2, .int x2)]) dX4_countWrongPasses_95 hl rfl (by decide) (by decide) hF (fun _ => rfl) (fun v4 ls hF hl => ?_)
        exact b98 rc ih v4 x2 _ _ _ hP (lv_sub hl [1, 0, 2] rfl) hF
  have b38 : ∀ (rc : Int32 → Int32 → Sig → Option (Int32)) (ih : ∀ (x1 : Int32) (x2 : Int32) (H : Heap) (locs : List Loc) (ls : Array Slot), PS SX Γ ad A s σ H locs → lv_has ls 3 [(0, .ref (ad (n + 1) 0)), (1, .int x1), (2, .int x2)] → rc x1 x2 σ = some r → W p l e (rmz 2 43) s m args below meth c H locs 0 0 (QI SX Γ ad A below args s r σ) (F0 m 4 ls [])) (x1 : Int32) (x2 : Int32) (H : Heap) (locs : List Loc) (ls : Array Slot), PS SX Γ ad A s σ H locs → lv_has ls 3 [(0, .ref (ad (n + 1) 0)), (1, .int x1), (2, .int x2)] → f4_countWrongPasses_b38 n rc x1 x2 σ = some r → W p l e (rmz 2 43) s m args below meth c H locs 0 0 (QI SX Γ ad A below args s r σ) (F0 m 38 ls []) := by
    intro rc ih x1 x2 H locs ls hP hl hF
    rw [f4_countWrongPasses_b38] at hF
    refine r_aload_n cx dX4_countWrongPasses_38 (lv_at hl 0 rfl) ?_
    refine gf4_35 cx hP hn dX4_countWrongPasses_39 ?_
    refine r_iload_n cx dX4_countWrongPasses_42 (lv_at hl 2 rfl) ?_
    obtain ⟨v5, hc, hF⟩ := bnd_some hF
    refine r_callVi cx hP (As := [.int x2]) (w7_hasCard l Γ ad A n hn x2 σ v5 hc) mw4_155 ⟨Nat.le_of_ble_eq_true rfl, Nat.le_of_ble_eq_true rfl⟩ (dXg hn (by decide)) rfl rfl rfl (Nat.le_of_ble_eq_true rfl) hl.1 ⟨Nat.zero_le _, Nat.zero_le _⟩ dX4_countWrongPasses_43 (fun H locs hP => ?_)
    refine r_if_eq cx 72 dX4_countWrongPasses_46 (by decide) hF (fun hF => ?_) (fun hF => ?_)
    · exact b72 rc ih x1 x2 _ _ _ hP (lv_sub hl [0, 1, 2] rfl) hF
    · refine r_aload_n cx dX4_countWrongPasses_49 (lv_at hl 0 rfl) ?_
      refine gf4_42 cx hP hn dX4_countWrongPasses_50 ?_
      refine r_aload_n cx dX4_countWrongPasses_53 (lv_at hl 0 rfl) ?_
      refine gf4_35 cx hP hn dX4_countWrongPasses_54 ?_
      refine gf4_113 cx hP hn dX4_countWrongPasses_57 ?_
      refine r_iload_n cx dX4_countWrongPasses_60 (lv_at hl 2 rfl) ?_
      refine r_iald cx hP (dXg hn (by decide)) rfl dX4_countWrongPasses_61 hF (fun v6 hF => ?_)
      refine r_iload_n cx dX4_countWrongPasses_62 (lv_at hl 2 rfl) ?_
      obtain ⟨v7, hc, hF⟩ := bnd_some hF
      refine r_callVi cx hP (As := [.int v6, .int x2]) (w2_isOpenCardOf l Γ ad A n hn v6 x2 σ v7 hc) mw4_248 ⟨Nat.le_of_ble_eq_true rfl, Nat.le_of_ble_eq_true rfl⟩ (dXg hn (by decide)) rfl rfl rfl (Nat.le_of_ble_eq_true rfl) hl.1 ⟨Nat.zero_le _, Nat.zero_le _⟩ dX4_countWrongPasses_63 (fun H locs hP => ?_)
      refine r_if_ne cx 72 dX4_countWrongPasses_66 (by decide) hF (fun hF => ?_) (fun hF => ?_)
      · exact b72 rc ih x1 x2 _ _ _ hP (lv_sub hl [0, 1, 2] rfl) hF
      · refine r_iinc cx (k := 1) (w := 1) (fun v8 => [(1, .int v8), (0, .ref (ad (n + 1) 0)), (2, .int x2)]) dX4_countWrongPasses_69 hl rfl (by decide) (by decide) hF (fun _ => rfl) (fun v8 ls hF hl => ?_)
        exact b72 rc ih v8 x2 _ _ _ hP (lv_sub hl [1, 0, 2] rfl) hF
  have b4 : ∀ (fu : Nat) (x1 : Int32) (x2 : Int32) (H : Heap) (locs : List Loc) (ls : Array Slot), PS SX Γ ad A s σ H locs → lv_has ls 3 [(0, .ref (ad (n + 1) 0)), (1, .int x1), (2, .int x2)] → f4_countWrongPasses_b4 n fu x1 x2 σ = some r → W p l e (rmz 2 43) s m args below meth c H locs 0 0 (QI SX Γ ad A below args s r σ) (F0 m 4 ls []) := by
    intro fu
    induction fu with
    | zero => intro x1 x2 H locs ls hP hl hF; exact nofu hF
    | succ fu ih =>
      intro x1 x2 H locs ls hP hl hF
      rw [f4_countWrongPasses_b4] at hF
      refine r_iload_n cx dX4_countWrongPasses_4 (lv_at hl 2 rfl) ?_
      refine r_aload_n cx dX4_countWrongPasses_5 (lv_at hl 0 rfl) ?_
      refine gf4_35 cx hP hn dX4_countWrongPasses_6 ?_
      refine gf4_61 cx hP hn dX4_countWrongPasses_9 hF (fun v9 hF => ?_)
      refine r_icmp_ge cx 104 dX4_countWrongPasses_12 (by decide) hF (fun hF => ?_) (fun hF => ?_)
      · refine r_iload_n cx dX4_countWrongPasses_104 (lv_at hl 1 rfl) ?_
        exact r_iret cx hP hr hk dX4_countWrongPasses_105 (prF hF)
      · refine r_aload_n cx dX4_countWrongPasses_15 (lv_at hl 0 rfl) ?_
        refine gf4_35 cx hP hn dX4_countWrongPasses_16 ?_
        refine r_iload_n cx dX4_countWrongPasses_19 (lv_at hl 2 rfl) ?_
        obtain ⟨v10, hc, hF⟩ := bnd_some hF
        refine r_callVi cx hP (As := [.int x2]) (w7_countUsedDays l Γ ad A n hn x2 σ v10 hc) mw4_245 ⟨Nat.le_of_ble_eq_true rfl, Nat.le_of_ble_eq_true rfl⟩ (dXg hn (by decide)) rfl rfl rfl (Nat.le_of_ble_eq_true rfl) hl.1 ⟨Nat.zero_le _, Nat.zero_le _⟩ dX4_countWrongPasses_20 (fun H locs hP => ?_)
        refine r_aload_n cx dX4_countWrongPasses_23 (lv_at hl 0 rfl) ?_
        refine gf4_35 cx hP hn dX4_countWrongPasses_24 ?_
        refine gf4_133 cx hP hn dX4_countWrongPasses_27 ?_
        refine r_iload_n cx dX4_countWrongPasses_30 (lv_at hl 2 rfl) ?_
        refine r_iald cx hP (dXg hn (by decide)) rfl dX4_countWrongPasses_31 hF (fun v11 hF => ?_)
        refine r_icmp_le cx 38 dX4_countWrongPasses_32 (by decide) hF (fun hF => ?_) (fun hF => ?_)
        · exact b38 (f4_countWrongPasses_b4 n fu) ih x1 x2 _ _ _ hP (lv_sub hl [0, 1, 2] rfl) hF
        · refine r_iinc cx (k := 1) (w := 1) (fun v12 => [(1, .int v12), (0, .ref (ad (n + 1) 0)), (2, .int x2)]) dX4_countWrongPasses_35 hl rfl (by decide) (by decide) hF (fun _ => rfl) (fun v12 ls hF hl => ?_)
          exact b38 (f4_countWrongPasses_b4 n fu) ih v12 x2 _ _ _ hP (lv_sub hl [1, 0, 2] rfl) hF
  refine r_iconst cx 0 dX4_countWrongPasses_0 (by decide) ?_
  refine r_istore_n cx [(1, .int 0), (0, .ref (ad (n + 1) 0))] dX4_countWrongPasses_1 hl (by decide) rfl (fun ls hl => ?_)
  refine r_iconst cx 0 dX4_countWrongPasses_2 (by decide) ?_
  refine r_istore_n cx [(2, .int 0), (1, .int 0), (0, .ref (ad (n + 1) 0))] dX4_countWrongPasses_3 hl (by decide) rfl (fun ls hl => ?_)
  exact b4 FU 0 0 _ _ _ hP (lv_sub hl [2, 1, 0] rfl) hF
set_option maxHeartbeats 4000000 in
set_option maxRecDepth 100000 in
theorem w0_countWrong (l : Launch) (Γ : Wc) (ad : Nat → Nat → Nat) (A : Nat → Prop) (n : Nat) (hn : n < 11) (σ : Sig) (r : Int32) (hF : f0_countWrong n σ = some r) : MI l SX Γ ad A yX0_countWrong cX0_countWrong 3 (some .int) 1 21 [.ref (ad (n + 1) 3)] σ r σ := by
  refine MI.of (by decide) (Nat.le_of_ble_eq_true rfl) ?_
  intro p e s m args below meth c ls cx hr hk hP hl
  have hl : lv_has ls 3 [(0, .ref (ad (n + 1) 3))] := hl
  rw [f0_countWrong] at hF
  generalize hH0 : s.heap = H0 at hP ⊢
  generalize ([] : List Loc) = locs0 at hP ⊢
  clear hH0
  have b43 : ∀ (rc : Int32 → Int32 → Sig → Option (Int32)) (ih : ∀ (x1 : Int32) (x2 : Int32) (H : Heap) (locs : List Loc) (ls : Array Slot), PS SX Γ ad A s σ H locs → lv_has ls 3 [(0, .ref (ad (n + 1) 3)), (1, .int x1), (2, .int x2)] → rc x1 x2 σ = some r → W p l e (rmz 1 21) s m args below meth c H locs 0 0 (QI SX Γ ad A below args s r σ) (F0 m 4 ls [])) (x1 : Int32) (x2 : Int32) (H : Heap) (locs : List Loc) (ls : Array Slot), PS SX Γ ad A s σ H locs → lv_has ls 3 [(0, .ref (ad (n + 1) 3)), (1, .int x1), (2, .int x2)] → f0_countWrong_b43 n rc x1 x2 σ = some r → W p l e (rmz 1 21) s m args below meth c H locs 0 0 (QI SX Γ ad A below args s r σ) (F0 m 43 ls []) := by
    intro rc ih x1 x2 H locs ls hP hl hF
    rw [f0_countWrong_b43] at hF
    refine r_iinc cx (k := 2) (w := 1) (fun v1 => [(2, .int v1), (0, .ref (ad (n + 1) 3)), (1, .int x1)]) dX0_countWrong_43 hl rfl (by decide) (by decide) hF (fun _ => rfl) (fun v1 ls hF hl => ?_)
    refine r_goto cx 4 dX0_countWrong_46 (by decide) ?_
    exact ih x1 v1 _ _ _ hP (lv_sub hl [1, 2, 0] rfl) hF
  have b40 : ∀ (rc : Int32 → Int32 → Sig → Option (Int32)) (ih : ∀ (x1 : Int32) (x2 : Int32) (H : Heap) (locs : List Loc) (ls : Array Slot), PS SX Γ ad A s σ H locs → lv_has ls 3 [(0, .ref (ad (n + 1) 3)), (1, .int x1), (2, .int x2)] → rc x1 x2 σ = some r → W p l e (rmz 1 21) s m args below meth c H locs 0 0 (QI SX Γ ad A below args s r σ) (F0 m 4 ls [])) (x1 : Int32) (x2 : Int32) (H : Heap) (locs : List Loc) (ls : Array Slot), PS SX Γ ad A s σ H locs → lv_has ls 3 [(0, .ref (ad (n + 1) 3)), (1, .int x1), (2, .int x2)] → f0_countWrong_b40 n rc x1 x2 σ = some r → W p l e (rmz 1 21) s m args below meth c H locs 0 0 (QI SX Γ ad A below args s r σ) (F0 m 40 ls []) := by
    intro rc ih x1 x2 H locs ls hP hl hF
    rw [f0_countWrong_b40] at hF
    refine r_iinc cx (k := 1) (w := 1) (fun v2 => [(1, .int v2), (0, .ref (ad (n + 1) 3)), (2, .int x2)]) dX0_countWrong_40 hl rfl (by decide) (by decide) hF (fun _ => rfl) (fun v2 ls hF hl => ?_)
    exact b43 rc ih v2 x2 _ _ _ hP (lv_sub hl [1, 0, 2] rfl) hF
  have b4 : ∀ (fu : Nat) (x1 : Int32) (x2 : Int32) (H : Heap) (locs : List Loc) (ls : Array Slot), PS SX Γ ad A s σ H locs → lv_has ls 3 [(0, .ref (ad (n + 1) 3)), (1, .int x1), (2, .int x2)] → f0_countWrong_b4 n fu x1 x2 σ = some r → W p l e (rmz 1 21) s m args below meth c H locs 0 0 (QI SX Γ ad A below args s r σ) (F0 m 4 ls []) := by
    intro fu
    induction fu with
    | zero => intro x1 x2 H locs ls hP hl hF; exact nofu hF
    | succ fu ih =>
      intro x1 x2 H locs ls hP hl hF
      rw [f0_countWrong_b4] at hF
      refine r_iload_n cx dX0_countWrong_4 (lv_at hl 2 rfl) ?_
      refine r_aload_n cx dX0_countWrong_5 (lv_at hl 0 rfl) ?_
      refine gf0_33 cx hP hn dX0_countWrong_6 hF (fun v3 hF => ?_)
      refine r_icmp_ge cx 49 dX0_countWrong_9 (by decide) hF (fun hF => ?_) (fun hF => ?_)
      · refine r_iload_n cx dX0_countWrong_49 (lv_at hl 1 rfl) ?_
        exact r_iret cx hP hr hk dX0_countWrong_50 (prF hF)
      · refine r_aload_n cx dX0_countWrong_12 (lv_at hl 0 rfl) ?_
        refine r_iload_n cx dX0_countWrong_13 (lv_at hl 2 rfl) ?_
        obtain ⟨v4, hc, hF⟩ := bnd_some hF
        refine r_callVi cx hP (As := [.int x2]) (w0_freePlaces l Γ ad A n hn x2 σ v4 hc) mw0_53 ⟨Nat.le_of_ble_eq_true rfl, Nat.le_of_ble_eq_true rfl⟩ (dXg hn (by decide)) rfl rfl rfl (Nat.le_of_ble_eq_true rfl) hl.1 ⟨Nat.zero_le _, Nat.zero_le _⟩ dX0_countWrong_14 (fun H locs hP => ?_)
        refine r_if_lt cx 40 dX0_countWrong_17 (by decide) hF (fun hF => ?_) (fun hF => ?_)
        · exact b40 (f0_countWrong_b4 n fu) ih x1 x2 _ _ _ hP (lv_sub hl [0, 1, 2] rfl) hF
        · refine r_aload_n cx dX0_countWrong_20 (lv_at hl 0 rfl) ?_
          refine gf0_24 cx hP hn dX0_countWrong_21 ?_
          refine r_iload_n cx dX0_countWrong_24 (lv_at hl 2 rfl) ?_
          refine r_iald cx hP (dXg hn (by decide)) rfl dX0_countWrong_25 hF (fun v5 hF => ?_)
          refine r_if_lt cx 40 dX0_countWrong_26 (by decide) hF (fun hF => ?_) (fun hF => ?_)
          · exact b40 (f0_countWrong_b4 n fu) ih x1 x2 _ _ _ hP (lv_sub hl [0, 1, 2] rfl) hF
          · refine r_aload_n cx dX0_countWrong_29 (lv_at hl 0 rfl) ?_
            refine gf0_24 cx hP hn dX0_countWrong_30 ?_
            refine r_iload_n cx dX0_countWrong_33 (lv_at hl 2 rfl) ?_
            refine r_iald cx hP (dXg hn (by decide)) rfl dX0_countWrong_34 hF (fun v6 hF => ?_)
            refine r_bipush cx 50 dX0_countWrong_35 (by decide) ?_
            refine r_icmp_le cx 43 dX0_countWrong_37 (by decide) hF (fun hF => ?_) (fun hF => ?_)
            · exact b43 (f0_countWrong_b4 n fu) ih x1 x2 _ _ _ hP (lv_sub hl [0, 1, 2] rfl) hF
            · exact b40 (f0_countWrong_b4 n fu) ih x1 x2 _ _ _ hP (lv_sub hl [0, 1, 2] rfl) hF
  refine r_iconst cx 0 dX0_countWrong_0 (by decide) ?_
  refine r_istore_n cx [(1, .int 0), (0, .ref (ad (n + 1) 3))] dX0_countWrong_1 hl (by decide) rfl (fun ls hl => ?_)
  refine r_iconst cx 0 dX0_countWrong_2 (by decide) ?_
  refine r_istore_n cx [(2, .int 0), (1, .int 0), (0, .ref (ad (n + 1) 3))] dX0_countWrong_3 hl (by decide) rfl (fun ls hl => ?_)
  exact b4 FU 0 0 _ _ _ hP (lv_sub hl [2, 1, 0] rfl) hF
set_option maxHeartbeats 4000000 in
set_option maxRecDepth 100000 in
theorem w0_sumOfVisits (l : Launch) (Γ : Wc) (ad : Nat → Nat → Nat) (A : Nat → Prop) (n : Nat) (hn : n < 11) (σ : Sig) (r : Int32) (hF : f0_sumOfVisits n σ = some r) : MI l SX Γ ad A yX0_sumOfVisits cX0_sumOfVisits 3 (some .int) 0 0 [.ref (ad (n + 1) 3)] σ r σ := by
  refine MI.of (by decide) (Nat.le_of_ble_eq_true rfl) ?_
  intro p e s m args below meth c ls cx hr hk hP hl
  have hl : lv_has ls 3 [(0, .ref (ad (n + 1) 3))] := hl
  rw [f0_sumOfVisits] at hF
  generalize hH0 : s.heap = H0 at hP ⊢
  generalize ([] : List Loc) = locs0 at hP ⊢
  clear hH0
  have b4 : ∀ (fu : Nat) (x1 : Int32) (x2 : Int32) (H : Heap) (locs : List Loc) (ls : Array Slot), PS SX Γ ad A s σ H locs → lv_has ls 3 [(0, .ref (ad (n + 1) 3)), (1, .int x1), (2, .int x2)] → f0_sumOfVisits_b4 n fu x1 x2 σ = some r → W p l e (rmz 0 0) s m args below meth c H locs 0 0 (QI SX Γ ad A below args s r σ) (F0 m 4 ls []) := by
    intro fu
    induction fu with
    | zero => intro x1 x2 H locs ls hP hl hF; exact nofu hF
    | succ fu ih =>
      intro x1 x2 H locs ls hP hl hF
      rw [f0_sumOfVisits_b4] at hF
      refine r_iload_n cx dX0_sumOfVisits_4 (lv_at hl 2 rfl) ?_
      refine r_aload_n cx dX0_sumOfVisits_5 (lv_at hl 0 rfl) ?_
      refine gf0_33 cx hP hn dX0_sumOfVisits_6 hF (fun v1 hF => ?_)
      refine r_icmp_ge cx 27 dX0_sumOfVisits_9 (by decide) hF (fun hF => ?_) (fun hF => ?_)
      · refine r_iload_n cx dX0_sumOfVisits_27 (lv_at hl 1 rfl) ?_
        exact r_iret cx hP hr hk dX0_sumOfVisits_28 (prF hF)
      · refine r_iload_n cx dX0_sumOfVisits_12 (lv_at hl 1 rfl) ?_
        refine r_aload_n cx dX0_sumOfVisits_13 (lv_at hl 0 rfl) ?_
        refine gf0_27 cx hP hn dX0_sumOfVisits_14 ?_
        refine r_iload_n cx dX0_sumOfVisits_17 (lv_at hl 2 rfl) ?_
        refine r_iald cx hP (dXg hn (by decide)) rfl dX0_sumOfVisits_18 hF (fun v2 hF => ?_)
        refine r_iadd cx dX0_sumOfVisits_19 hF (fun v3 hF => ?_)
        refine r_istore_n cx [(1, .int v3), (0, .ref (ad (n + 1) 3)), (2, .int x2)] dX0_sumOfVisits_20 hl (by decide) rfl (fun ls hl => ?_)
        refine r_iinc cx (k := 2) (w := 1) (fun v4 => [(2, .int v4), (1, .int v3), (0, .ref (ad (n + 1) 3))]) dX0_sumOfVisits_21 hl rfl (by decide) (by decide) hF (fun _ => rfl) (fun v4 ls hF hl => ?_)
        refine r_goto cx 4 dX0_sumOfVisits_24 (by decide) ?_
        exact ih v3 v4 _ _ _ hP (lv_sub hl [2, 1, 0] rfl) hF
  refine r_iconst cx 0 dX0_sumOfVisits_0 (by decide) ?_
  refine r_istore_n cx [(1, .int 0), (0, .ref (ad (n + 1) 3))] dX0_sumOfVisits_1 hl (by decide) rfl (fun ls hl => ?_)
  refine r_iconst cx 0 dX0_sumOfVisits_2 (by decide) ?_
  refine r_istore_n cx [(2, .int 0), (1, .int 0), (0, .ref (ad (n + 1) 3))] dX0_sumOfVisits_3 hl (by decide) rfl (fun ls hl => ?_)
  exact b4 FU 0 0 _ _ _ hP (lv_sub hl [2, 1, 0] rfl) hF
set_option maxHeartbeats 4000000 in
set_option maxRecDepth 100000 in
theorem w7_sumOfVisits (l : Launch) (Γ : Wc) (ad : Nat → Nat → Nat) (A : Nat → Prop) (n : Nat) (hn : n < 11) (σ : Sig) (r : Int32) (hF : f7_sumOfVisits n σ = some r) : MI l SX Γ ad A yX7_sumOfVisits cX7_sumOfVisits 3 (some .int) 0 0 [.ref (ad (n + 1) 4)] σ r σ := by
  refine MI.of (by decide) (Nat.le_of_ble_eq_true rfl) ?_
  intro p e s m args below meth c ls cx hr hk hP hl
  have hl : lv_has ls 3 [(0, .ref (ad (n + 1) 4))] := hl
  rw [f7_sumOfVisits] at hF
  generalize hH0 : s.heap = H0 at hP ⊢
  generalize ([] : List Loc) = locs0 at hP ⊢
  clear hH0
  have b4 : ∀ (fu : Nat) (x1 : Int32) (x2 : Int32) (H : Heap) (locs : List Loc) (ls : Array Slot), PS SX Γ ad A s σ H locs → lv_has ls 3 [(0, .ref (ad (n + 1) 4)), (1, .int x1), (2, .int x2)] → f7_sumOfVisits_b4 n fu x1 x2 σ = some r → W p l e (rmz 0 0) s m args below meth c H locs 0 0 (QI SX Γ ad A below args s r σ) (F0 m 4 ls []) := by
    intro fu
    induction fu with
    | zero => intro x1 x2 H locs ls hP hl hF; exact nofu hF
    | succ fu ih =>
      intro x1 x2 H locs ls hP hl hF
      rw [f7_sumOfVisits_b4] at hF
      refine r_iload_n cx dX7_sumOfVisits_4 (lv_at hl 2 rfl) ?_
      refine r_aload_n cx dX7_sumOfVisits_5 (lv_at hl 0 rfl) ?_
      refine gf7_49 cx hP hn dX7_sumOfVisits_6 hF (fun v1 hF => ?_)
      refine r_icmp_ge cx 27 dX7_sumOfVisits_9 (by decide) hF (fun hF => ?_) (fun hF => ?_)
      · refine r_iload_n cx dX7_sumOfVisits_27 (lv_at hl 1 rfl) ?_
        exact r_iret cx hP hr hk dX7_sumOfVisits_28 (prF hF)
      · refine r_iload_n cx dX7_sumOfVisits_12 (lv_at hl 1 rfl) ?_
        refine r_aload_n cx dX7_sumOfVisits_13 (lv_at hl 0 rfl) ?_
        refine gf7_37 cx hP hn dX7_sumOfVisits_14 ?_
        refine r_iload_n cx dX7_sumOfVisits_17 (lv_at hl 2 rfl) ?_
        refine r_iald cx hP (dXg hn (by decide)) rfl dX7_sumOfVisits_18 hF (fun v2 hF => ?_)
        refine r_iadd cx dX7_sumOfVisits_19 hF (fun v3 hF => ?_)
        refine r_istore_n cx [(1, .int v3), (0, .ref (ad (n + 1) 4)), (2, .int x2)] dX7_sumOfVisits_20 hl (by decide) rfl (fun ls hl => ?_)
        refine r_iinc cx (k := 2) (w := 1) (fun v4 => [(2, .int v4), (1, .int v3), (0, .ref (ad (n + 1) 4))]) dX7_sumOfVisits_21 hl rfl (by decide) (by decide) hF (fun _ => rfl) (fun v4 ls hF hl => ?_)
        refine r_goto cx 4 dX7_sumOfVisits_24 (by decide) ?_
        exact ih v3 v4 _ _ _ hP (lv_sub hl [2, 1, 0] rfl) hF
  refine r_iconst cx 0 dX7_sumOfVisits_0 (by decide) ?_
  refine r_istore_n cx [(1, .int 0), (0, .ref (ad (n + 1) 4))] dX7_sumOfVisits_1 hl (by decide) rfl (fun ls hl => ?_)
  refine r_iconst cx 0 dX7_sumOfVisits_2 (by decide) ?_
  refine r_istore_n cx [(2, .int 0), (1, .int 0), (0, .ref (ad (n + 1) 4))] dX7_sumOfVisits_3 hl (by decide) rfl (fun ls hl => ?_)
  exact b4 FU 0 0 _ _ _ hP (lv_sub hl [2, 1, 0] rfl) hF
set_option maxHeartbeats 4000000 in
set_option maxRecDepth 100000 in
theorem w7_sumOfOwed (l : Launch) (Γ : Wc) (ad : Nat → Nat → Nat) (A : Nat → Prop) (n : Nat) (hn : n < 11) (σ : Sig) (r : Int32) (hF : f7_sumOfOwed n σ = some r) : MI l SX Γ ad A yX7_sumOfOwed cX7_sumOfOwed 3 (some .int) 0 0 [.ref (ad (n + 1) 4)] σ r σ := by
  refine MI.of (by decide) (Nat.le_of_ble_eq_true rfl) ?_
  intro p e s m args below meth c ls cx hr hk hP hl
  have hl : lv_has ls 3 [(0, .ref (ad (n + 1) 4))] := hl
  rw [f7_sumOfOwed] at hF
  generalize hH0 : s.heap = H0 at hP ⊢
  generalize ([] : List Loc) = locs0 at hP ⊢
  clear hH0
  have b4 : ∀ (fu : Nat) (x1 : Int32) (x2 : Int32) (H : Heap) (locs : List Loc) (ls : Array Slot), PS SX Γ ad A s σ H locs → lv_has ls 3 [(0, .ref (ad (n + 1) 4)), (1, .int x1), (2, .int x2)] → f7_sumOfOwed_b4 n fu x1 x2 σ = some r → W p l e (rmz 0 0) s m args below meth c H locs 0 0 (QI SX Γ ad A below args s r σ) (F0 m 4 ls []) := by
    intro fu
    induction fu with
    | zero => intro x1 x2 H locs ls hP hl hF; exact nofu hF
    | succ fu ih =>
      intro x1 x2 H locs ls hP hl hF
      rw [f7_sumOfOwed_b4] at hF
      refine r_iload_n cx dX7_sumOfOwed_4 (lv_at hl 2 rfl) ?_
      refine r_aload_n cx dX7_sumOfOwed_5 (lv_at hl 0 rfl) ?_
      refine gf7_49 cx hP hn dX7_sumOfOwed_6 hF (fun v1 hF => ?_)
      refine r_icmp_ge cx 27 dX7_sumOfOwed_9 (by decide) hF (fun hF => ?_) (fun hF => ?_)
      · refine r_iload_n cx dX7_sumOfOwed_27 (lv_at hl 1 rfl) ?_
        exact r_iret cx hP hr hk dX7_sumOfOwed_28 (prF hF)
      · refine r_iload_n cx dX7_sumOfOwed_12 (lv_at hl 1 rfl) ?_
        refine r_aload_n cx dX7_sumOfOwed_13 (lv_at hl 0 rfl) ?_
        refine gf7_46 cx hP hn dX7_sumOfOwed_14 ?_
        refine r_iload_n cx dX7_sumOfOwed_17 (lv_at hl 2 rfl) ?_
        refine r_iald cx hP (dXg hn (by decide)) rfl dX7_sumOfOwed_18 hF (fun v2 hF => ?_)
        refine r_iadd cx dX7_sumOfOwed_19 hF (fun v3 hF => ?_)
        refine r_istore_n cx [(1, .int v3), (0, .ref (ad (n + 1) 4)), (2, .int x2)] dX7_sumOfOwed_20 hl (by decide) rfl (fun ls hl => ?_)
        refine r_iinc cx (k := 2) (w := 1) (fun v4 => [(2, .int v4), (1, .int v3), (0, .ref (ad (n + 1) 4))]) dX7_sumOfOwed_21 hl rfl (by decide) (by decide) hF (fun _ => rfl) (fun v4 ls hF hl => ?_)
        refine r_goto cx 4 dX7_sumOfOwed_24 (by decide) ?_
        exact ih v3 v4 _ _ _ hP (lv_sub hl [2, 1, 0] rfl) hF
  refine r_iconst cx 0 dX7_sumOfOwed_0 (by decide) ?_
  refine r_istore_n cx [(1, .int 0), (0, .ref (ad (n + 1) 4))] dX7_sumOfOwed_1 hl (by decide) rfl (fun ls hl => ?_)
  refine r_iconst cx 0 dX7_sumOfOwed_2 (by decide) ?_
  refine r_istore_n cx [(2, .int 0), (1, .int 0), (0, .ref (ad (n + 1) 4))] dX7_sumOfOwed_3 hl (by decide) rfl (fun ls hl => ?_)
  exact b4 FU 0 0 _ _ _ hP (lv_sub hl [2, 1, 0] rfl) hF
