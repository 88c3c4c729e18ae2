/-! printed: began: the loops that write the text -/
abbrev rmb : Room := { frames := 10, cells := 60, slots := 12000, locals := 300 }
/-- an int that isn't negative, as a number -/
def nat9 (x : Int32) : Nat := x.toInt.toNat
theorem nat9_eq {x : Int32} (h : 0 ≤ x.toInt) : x = nI (nat9 x) := by
  have h1 := x.toInt_lt
  refine ti_ext ?_
  rw [nI_toInt (by unfold nat9; omega)]
  unfold nat9
  omega
/-- the letters of the prices -/
def pT9 (f : Nat → Nat) : Nat → List Nat
  | 0 => txs 14
  | n + 1 => (pT9 f n ++ [32]) ++ dgs (f n)
/-- the letters of the beds -/
def bT9 (tx : List Nat) (f g h k : Nat → Nat) : Nat → List Nat
  | 0 => tx
  | n + 1 => ((((((((bT9 tx f g h k n ++ txs 15) ++ dgs (f n)) ++ [32]) ++ dgs (g n)) ++ [32]) ++ dgs (h n)) ++ [32]) ++ dgs (k n)) ++ [59]
theorem txs_l : (txs 14).length = 6 ∧ (txs 15).length = 4 ∧ (txs 16).length = 5 := by decide +kernel
theorem dgs_1 {x : Nat} (h : x < 10) : (dgs x).length = 1 := by unfold dgs; rw [if_pos h]; rfl
theorem dgs_2 (x : Nat) : 1 ≤ (dgs x).length ∧ (dgs x).length ≤ 2 := by unfold dgs; split <;> simp
theorem pT9_len (f : Nat → Nat) : ∀ n, (pT9 f n).length ≤ 6 + 3 * n := by
  intro n
  induction n with
  | zero => have := txs_l.1; show (txs 14).length ≤ _; omega
  | succ n ih =>
    have := dgs_2 (f n)
    show ((pT9 f n ++ [32]) ++ dgs (f n)).length ≤ _
    simp only [List.length_append, List.length_cons, List.length_nil]
    omega
theorem bT9_len {tx : List Nat} {f g h k : Nat → Nat} : ∀ n, (∀ i, i < n → f i < 10 ∧ g i < 10 ∧ h i < 10 ∧ k i < 10) → (bT9 tx f g h k n).length = tx.length + 12 * n := by
  intro n
  induction n with
  | zero => intro _; rfl
  | succ n ih =>
    intro hh
    have h1 := ih (fun i hi => hh i (by omega))
    have h2 := hh n (by omega)
    have := txs_l.2.1
    show (((((((((bT9 tx f g h k n ++ txs 15) ++ dgs (f n)) ++ [32]) ++ dgs (g n)) ++ [32]) ++ dgs (h n)) ++ [32]) ++ dgs (k n)) ++ [59]).length = _
    simp only [List.length_append, List.length_cons, List.length_nil, dgs_1 h2.1, dgs_1 h2.2.1, dgs_1 h2.2.2.1, dgs_1 h2.2.2.2]
    omega
set_option maxHeartbeats 4000000 in
set_option maxRecDepth 100000 in
theorem beg_l1 {p : Program} {l : Launch} {e : Env} {s : State} {m : MethodId} {args : Array Value} {below : List Frame} {meth : Method} {c : Code} {Γ : Wc} {ad : Nat → Nat → Nat} {σ : Sig} {b L : Nat} {xs : Nat → Int32} {bb : Nat} {Q : State → Prop} (cg : CGb Γ ad b L xs cL_began 8 p s m args c) (hL : L ≤ 260) {S : Nat} (hS4 : S ≤ 4) (f : Nat → Nat) (hf : ∀ i, i < S → 1 + fmod (cellv L xs (1 + i)) 60 = nI (f i) ∧ f i < 100) (K : ∀ (w : va_W) (H : Heap) (locs : List Loc) (ls : Array Slot), SGb Γ ad s σ w H locs → TL9 Γ.2.1 bb (pT9 f S) w → lv_has ls 8 [(4, .int (nI S)), (3, .ref bb), (2, .int (nI S)), (0, .ref (ad 0 0)), (1, .ref b)] → W p l e rmb s m args below meth c H locs (3 + 2 * S) (300 + 400 * S) Q (F0 m 54 ls [])) : ∀ (k i : Nat), i + k = S → ∀ (w : va_W) (H : Heap) (locs : List Loc) (ls : Array Slot), SGb Γ ad s σ w H locs → TL9 Γ.2.1 bb (pT9 f i) w → lv_has ls 8 [(4, .int (nI i)), (3, .ref bb), (2, .int (nI S)), (0, .ref (ad 0 0)), (1, .ref b)] → W p l e rmb s m args below meth c H locs (3 + 2 * i) (300 + 400 * i) Q (F0 m 21 ls []) := by
  intro k
  have hx := cg.1.1
  have hb := cg.1.2.1
  induction k with
  | zero =>
    intro i hi w H locs ls hG hT hl
    have hi : i = S := by omega
    subst hi
    refine lv_iload hx hb dL_began_21 (lv_at hl 0 rfl) ?_
    refine lv_iload_n hx hb dL_began_23 rfl (lv_at hl 2 rfl) ?_
    exact lv_icmp_ge (tgt := 54) hx hb dL_began_24 (by decide) (fun _ => K w H locs ls hG hT hl) (fun c1 => absurd (nI_le (Nat.le_refl _) (by omega)) c1)
  | succ k ih =>
    intro i hi w H locs ls hG hT hl
    have hlen := pT9_len f i
    obtain ⟨hf1, hf2⟩ := hf i (by omega)
    refine lv_iload hx hb dL_began_21 (lv_at hl 0 rfl) ?_
    refine lv_iload_n hx hb dL_began_23 rfl (lv_at hl 2 rfl) ?_
    refine lv_icmp_ge (tgt := 54) hx hb dL_began_24 (by decide) (fun c1 => absurd c1 (nI_ge (show i < S by omega) (by omega))) (fun _ => ?_)
    refine lv_aload_n hx hb dL_began_27 rfl (lv_at hl 1 rfl) ?_
    refine lv_bipush (v := 32) hx hb dL_began_28 (by decide) ?_
    refine r_apC cg hG hT 32 (by decide) (by first | omega | (simp only [List.length_append, List.length_cons, List.length_nil]; omega)) ⟨Nat.le_of_ble_eq_true rfl, Nat.le_of_ble_eq_true rfl⟩ (by rfl) (Nat.le_of_ble_eq_true rfl) hl.1 ⟨by show _ ≤ 60; omega, by show _ ≤ 12000; omega⟩ dL_began_30 (fun w H locs hT hG => ?_)
    refine lv_aload_n hx hb dL_began_33 rfl (lv_at hl 4 rfl) ?_
    refine lv_iconst (v := 1) hx hb dL_began_34 (by decide) ?_
    refine lv_iload hx hb dL_began_35 (lv_at hl 0 rfl) ?_
    refine lv_iadd hx hb dL_began_37 ?_
    rw [show (1 : Int32) + nI i = Int32.ofNat (1 + i) from nI_add 1 i]
    refine lv_iconst (v := 1) hx hb dL_began_38 (by decide) ?_
    refine lv_bipush (v := 60) hx hb dL_began_39 (by decide) ?_
    refine r_gA cg hG (As := [.ref b, .int (Int32.ofNat (1 + i)), .int 1, .int 60]) (rest := [.ref bb]) (a_of l b L xs (1 + i) 1 60 (by omega) hL (by decide)) mw13_148 ⟨Nat.le_of_ble_eq_true rfl, Nat.le_of_ble_eq_true rfl⟩ rfl (Nat.le_of_ble_eq_true rfl) hl.1 ⟨by show _ ≤ 60; omega, by show _ ≤ 12000; omega⟩ dL_began_41 (fun H locs hG => ?_)
    refine r_apI cg hG hT (f i) hf2 (by first | omega | (simp only [List.length_append, List.length_cons, List.length_nil]; omega)) ⟨Nat.le_of_ble_eq_true rfl, Nat.le_of_ble_eq_true rfl⟩ hf1 (Nat.le_of_ble_eq_true rfl) hl.1 ⟨by show _ ≤ 60; omega, by show _ ≤ 12000; omega⟩ dL_began_44 (fun w H locs hT hG => ?_)
    refine lv_pop hx hb dL_began_47 rfl ?_
    refine lv_iinc (v := nI (i + 1)) (lv' := [(4, .int (nI (i + 1))), (3, .ref bb), (2, .int (nI S)), (0, .ref (ad 0 0)), (1, .ref b)]) hx hb dL_began_48 hl (k := 0) rfl (nI_1 i) (by decide) rfl (fun ls hl => ?_)
    refine W.widen (k := 3 + 2 * (i + 1)) (n := 300 + 400 * (i + 1)) (by omega) (by omega) ?_
    refine lv_goto (tgt := 21) hx hb dL_began_51 (by decide) ?_
    exact ih (i + 1) (by omega) w H locs ls hG hT hl
/-- the numbers of a bed -/
theorem tdv {x y : Int32} (hx : 0 ≤ x.toInt) (hy : 0 < y.toInt) : 0 ≤ (x / y).toInt := by
  rw [Int32.toInt_div_of_ne_right _ _ (by intro e; subst e; exact absurd hy (by decide))]
  exact Int.tdiv_nonneg hx (Int.le_of_lt hy)
theorem rem_b {x y : Int32} (hx : 0 ≤ x.toInt) (hy : 0 < y.toInt) : 0 ≤ (x - x / y * y).toInt ∧ (x - x / y * y).toInt < y.toInt := by
  rw [rem_t hy]
  exact ⟨Int.tmod_nonneg y.toInt hx, Int.tmod_lt_of_pos x.toInt hy⟩
def bA9 (u : Int32) (S : Nat) : Nat := nat9 (u - u / nI S * nI S)
def bB9 (u : Int32) : Nat := nat9 (1 + (u / 8 - u / 8 / 3 * 3))
def bC9 (u : Int32) : Nat := nat9 (u / 32 - u / 32 / 3 * 3)
def bD9 (u : Int32) : Nat := nat9 (2 + (u / 128 - u / 128 / 8 * 8))
theorem bed9 {u : Int32} (hu : 0 ≤ u.toInt) {S : Nat} (h1 : 1 ≤ S) (h4 : S ≤ 4) : (u - u / nI S * nI S = nI (bA9 u S) ∧ bA9 u S < S) ∧ (1 + (u / 8 - u / 8 / 3 * 3) = nI (bB9 u) ∧ 1 ≤ bB9 u ∧ bB9 u ≤ 3) ∧ (u / 32 - u / 32 / 3 * 3 = nI (bC9 u) ∧ bC9 u ≤ 2) ∧ (2 + (u / 128 - u / 128 / 8 * 8) = nI (bD9 u) ∧ 2 ≤ bD9 u ∧ bD9 u ≤ 9) := by
  have e8 : (8 : Int32).toInt = 8 := rfl
  have e3 : (3 : Int32).toInt = 3 := rfl
  have e32 : (32 : Int32).toInt = 32 := rfl
  have e128 : (128 : Int32).toInt = 128 := rfl
  have eS : (nI S).toInt = S := nI_toInt (by omega)
  have a1 := rem_b (x := u) (y := nI S) hu (by omega)
  have b1 := rem_b (x := u / 8) (y := 3) (tdv hu (by decide)) (by decide)
  have c1 := rem_b (x := u / 32) (y := 3) (tdv hu (by decide)) (by decide)
  have d1 := rem_b (x := u / 128) (y := 8) (tdv hu (by decide)) (by decide)
  have b2 : (1 + (u / 8 - u / 8 / 3 * 3)).toInt = 1 + (u / 8 - u / 8 / 3 * 3).toInt := tv_add rfl rfl (by omega)
  have d2 : (2 + (u / 128 - u / 128 / 8 * 8)).toInt = 2 + (u / 128 - u / 128 / 8 * 8).toInt := tv_add rfl rfl (by omega)
  refine ⟨⟨nat9_eq a1.1, ?_⟩, ⟨nat9_eq (by omega), ?_⟩, ⟨nat9_eq c1.1, ?_⟩, ⟨nat9_eq (by omega), ?_⟩⟩
  · unfold bA9 nat9; omega
  · unfold bB9 nat9; omega
  · unfold bC9 nat9; omega
  · unfold bD9 nat9; omega
abbrev uu9 (L : Nat) (xs : Nat → Int32) (i : Nat) : Int32 := cellv L xs (5 + i) &&& 2147483647
abbrev beds9 (L : Nat) (xs : Nat → Int32) (S : Nat) (tx : List Nat) (n : Nat) : List Nat := bT9 tx (fun i => bA9 (uu9 L xs i) S) (fun i => bB9 (uu9 L xs i)) (fun i => bC9 (uu9 L xs i)) (fun i => bD9 (uu9 L xs i)) n
theorem beds9_len (L : Nat) (xs : Nat → Int32) {S : Nat} (h1 : 1 ≤ S) (h4 : S ≤ 4) (tx : List Nat) (n : Nat) : (beds9 L xs S tx n).length = tx.length + 12 * n := bT9_len n (fun i _ => by
  obtain ⟨⟨-, a⟩, ⟨-, b, b'⟩, ⟨-, c⟩, ⟨-, d, d'⟩⟩ := bed9 (and31 (cellv L xs (5 + i))) h1 h4
  exact ⟨Nat.lt_of_lt_of_le a (by omega), Nat.lt_of_le_of_lt b' (by decide), Nat.lt_of_le_of_lt c (by decide), Nat.lt_of_le_of_lt d' (by decide)⟩)
set_option maxHeartbeats 8000000 in
set_option maxRecDepth 100000 in
theorem beg_l2 {p : Program} {l : Launch} {e : Env} {s : State} {m : MethodId} {args : Array Value} {below : List Frame} {meth : Method} {c : Code} {Γ : Wc} {ad : Nat → Nat → Nat} {σ : Sig} {b L : Nat} {xs : Nat → Int32} {bb : Nat} {Q : State → Prop} (cg : CGb Γ ad b L xs cL_began 8 p s m args c) (hL : L ≤ 260) {S : Nat} (hS1 : 1 ≤ S) (hS4 : S ≤ 4) {tx : List Nat} (htx : tx.length ≤ 19) (K : ∀ (w : va_W) (H : Heap) (locs : List Loc) (ls : Array Slot), SGb Γ ad s σ w H locs → TL9 Γ.2.1 bb (beds9 L xs S tx 3) w → lv_has ls 8 [(4, .int (nI 3)), (3, .ref bb), (2, .int (nI S)), (0, .ref (ad 0 0)), (1, .ref b)] → W p l e rmb s m args below meth c H locs (12 + 9 * 3) (2200 + 1800 * 3) Q (F0 m 159 ls [])) : ∀ (k i : Nat), i + k = 3 → ∀ (w : va_W) (H : Heap) (locs : List Loc) (ls : Array Slot), SGb Γ ad s σ w H locs → TL9 Γ.2.1 bb (beds9 L xs S tx i) w → lv_has ls 8 [(4, .int (nI i)), (3, .ref bb), (2, .int (nI S)), (0, .ref (ad 0 0)), (1, .ref b)] → W p l e rmb s m args below meth c H locs (12 + 9 * i) (2200 + 1800 * i) Q (F0 m 64 ls []) := by
  intro k
  have hx := cg.1.1
  have hb := cg.1.2.1
  induction k with
  | zero =>
    intro i hi w H locs ls hG hT hl
    have hi : i = 3 := by omega
    subst hi
    refine lv_iload hx hb dL_began_64 (lv_at hl 0 rfl) ?_
    refine lv_iconst (v := 3) hx hb dL_began_66 (by decide) ?_
    exact lv_icmp_ge (tgt := 159) hx hb dL_began_67 (by decide) (fun _ => K w H locs ls hG hT hl) (fun c1 => absurd (show (3 : Int32) ≤ nI 3 by decide) c1)
  | succ k ih =>
    intro i hi w H locs ls hG hT hl
    have hlen := beds9_len L xs hS1 hS4 tx i
    have hu := and31 (cellv L xs (5 + i))
    obtain ⟨⟨hA, hA1⟩, ⟨hB, hB1, hB2⟩, ⟨hC, hC1⟩, ⟨hD, hD1, hD2⟩⟩ := bed9 hu hS1 hS4
    have lA := dgs_1 (x := bA9 (cellv L xs (5 + i) &&& 2147483647) S) (by omega)
    have lB := dgs_1 (x := bB9 (cellv L xs (5 + i) &&& 2147483647)) (by omega)
    have lC := dgs_1 (x := bC9 (cellv L xs (5 + i) &&& 2147483647)) (by omega)
    have lt := txs_l.2.1
    have hS0 : ¬ nI S = 0 := nI_ne0 (by omega) (by omega)
    refine lv_iload hx hb dL_began_64 (lv_at hl 0 rfl) ?_
    refine lv_iconst (v := 3) hx hb dL_began_66 (by decide) ?_
    refine lv_icmp_ge (tgt := 159) hx hb dL_began_67 (by decide) (fun c1 => absurd c1 (show ¬ nI 3 ≤ nI i from nI_ge (show i < 3 by omega) (by decide))) (fun _ => ?_)
    refine lv_aload_n hx hb dL_began_70 rfl (lv_at hl 4 rfl) ?_
    refine lv_iconst (v := 5) hx hb dL_began_71 (by decide) ?_
    refine lv_iload hx hb dL_began_72 (lv_at hl 0 rfl) ?_
    refine lv_iadd hx hb dL_began_74 ?_
    rw [show (5 : Int32) + nI i = Int32.ofNat (5 + i) from nI_add 5 i]
    refine r_gA cg hG (As := [.ref b, .int (Int32.ofNat (5 + i))]) (rest := []) (a_cell l b L xs (5 + i) (by omega) hL) mwL_7 ⟨Nat.le_of_ble_eq_true rfl, Nat.le_of_ble_eq_true rfl⟩ rfl (Nat.le_of_ble_eq_true rfl) hl.1 ⟨by show _ ≤ 60; omega, by show _ ≤ 12000; omega⟩ dL_began_75 (fun H locs hG => ?_)
    refine lv_ldc (v := 2147483647) hx hb cg.cx.hown (cg.1.2.2.2.2 _ kc13_166) dL_began_78 ?_
    refine lv_iand hx hb dL_began_80 ?_
    refine lv_istore (lv' := [(5, .int ((cellv L xs (5 + i)) &&& 2147483647)), (4, .int (nI i)), (3, .ref bb), (2, .int (nI S)), (0, .ref (ad 0 0)), (1, .ref b)]) hx hb dL_began_81 hl (by decide) rfl (fun ls hl => ?_)
    refine lv_aload_n hx hb dL_began_83 rfl (lv_at hl 2 rfl) ?_
    refine r_ldc cg.cx (k := 15) (by decide) ⟨rfl, rfl⟩ dL_began_84 ?_
    refine r_apS cg hG hT 15 (by decide) (by decide) (by first | omega | (simp only [List.length_append, List.length_cons, List.length_nil]; omega)) ⟨Nat.le_of_ble_eq_true rfl, Nat.le_of_ble_eq_true rfl⟩ (Nat.le_of_ble_eq_true rfl) hl.1 ⟨by show _ ≤ 60; omega, by show _ ≤ 12000; omega⟩ dL_began_86 (fun w H locs hT hG => ?_)
    refine lv_iload hx hb dL_began_89 (lv_at hl 0 rfl) ?_
    refine lv_iload_n hx hb dL_began_91 rfl (lv_at hl 3 rfl) ?_
    refine lv_irem hx hb dL_began_92 hS0 ?_
    refine r_apI cg hG hT (bA9 (cellv L xs (5 + i) &&& 2147483647) S) (by omega) (by first | omega | (simp only [List.length_append, List.length_cons, List.length_nil]; omega)) ⟨Nat.le_of_ble_eq_true rfl, Nat.le_of_ble_eq_true rfl⟩ hA (Nat.le_of_ble_eq_true rfl) hl.1 ⟨by show _ ≤ 60; omega, by show _ ≤ 12000; omega⟩ dL_began_93 (fun w H locs hT hG => ?_)
    refine lv_bipush (v := 32) hx hb dL_began_96 (by decide) ?_
    refine r_apC cg hG hT 32 (by decide) (by first | omega | (simp only [List.length_append, List.length_cons, List.length_nil]; omega)) ⟨Nat.le_of_ble_eq_true rfl, Nat.le_of_ble_eq_true rfl⟩ (by rfl) (Nat.le_of_ble_eq_true rfl) hl.1 ⟨by show _ ≤ 60; omega, by show _ ≤ 12000; omega⟩ dL_began_98 (fun w H locs hT hG => ?_)
    refine lv_iconst (v := 1) hx hb dL_began_101 (by decide) ?_
    refine lv_iload hx hb dL_began_102 (lv_at hl 0 rfl) ?_
    refine lv_bipush (v := 8) hx hb dL_began_104 (by decide) ?_
    refine lv_idiv hx hb dL_began_106 (by decide) ?_
    refine lv_iconst (v := 3) hx hb dL_began_107 (by decide) ?_
    refine lv_irem hx hb dL_began_108 (by decide) ?_
    refine lv_iadd hx hb dL_began_109 ?_
    refine r_apI cg hG hT (bB9 (cellv L xs (5 + i) &&& 2147483647)) (by omega) (by first | omega | (simp only [List.length_append, List.length_cons, List.length_nil]; omega)) ⟨Nat.le_of_ble_eq_true rfl, Nat.le_of_ble_eq_true rfl⟩ hB (Nat.le_of_ble_eq_true rfl) hl.1 ⟨by show _ ≤ 60; omega, by show _ ≤ 12000; omega⟩ dL_began_110 (fun w H locs hT hG => ?_)
    refine lv_bipush (v := 32) hx hb dL_began_113 (by decide) ?_
    refine r_apC cg hG hT 32 (by decide) (by first | omega | (simp only [List.length_append, List.length_cons, List.length_nil]; omega)) ⟨Nat.le_of_ble_eq_true rfl, Nat.le_of_ble_eq_true rfl⟩ (by rfl) (Nat.le_of_ble_eq_true rfl) hl.1 ⟨by show _ ≤ 60; omega, by show _ ≤ 12000; omega⟩ dL_began_115 (fun w H locs hT hG => ?_)
    refine lv_iload hx hb dL_began_118 (lv_at hl 0 rfl) ?_
    refine lv_bipush (v := 32) hx hb dL_began_120 (by decide) ?_
    refine lv_idiv hx hb dL_began_122 (by decide) ?_
    refine lv_iconst (v := 3) hx hb dL_began_123 (by decide) ?_
    refine lv_irem hx hb dL_began_124 (by decide) ?_
    refine r_apI cg hG hT (bC9 (cellv L xs (5 + i) &&& 2147483647)) (by omega) (by first | omega | (simp only [List.length_append, List.length_cons, List.length_nil]; omega)) ⟨Nat.le_of_ble_eq_true rfl, Nat.le_of_ble_eq_true rfl⟩ hC (Nat.le_of_ble_eq_true rfl) hl.1 ⟨by show _ ≤ 60; omega, by show _ ≤ 12000; omega⟩ dL_began_125 (fun w H locs hT hG => ?_)
    refine lv_bipush (v := 32) hx hb dL_began_128 (by decide) ?_
    refine r_apC cg hG hT 32 (by decide) (by first | omega | (simp only [List.length_append, List.length_cons, List.length_nil]; omega)) ⟨Nat.le_of_ble_eq_true rfl, Nat.le_of_ble_eq_true rfl⟩ (by rfl) (Nat.le_of_ble_eq_true rfl) hl.1 ⟨by show _ ≤ 60; omega, by show _ ≤ 12000; omega⟩ dL_began_130 (fun w H locs hT hG => ?_)
    refine lv_iconst (v := 2) hx hb dL_began_133 (by decide) ?_
    refine lv_iload hx hb dL_began_134 (lv_at hl 0 rfl) ?_
    refine lv_sipush (v := 128) hx hb dL_began_136 (by decide) ?_
    refine lv_idiv hx hb dL_began_139 (by decide) ?_
    refine lv_bipush (v := 8) hx hb dL_began_140 (by decide) ?_
    refine lv_irem hx hb dL_began_142 (by decide) ?_
    refine lv_iadd hx hb dL_began_143 ?_
    refine r_apI cg hG hT (bD9 (cellv L xs (5 + i) &&& 2147483647)) (by omega) (by first | omega | (simp only [List.length_append, List.length_cons, List.length_nil]; omega)) ⟨Nat.le_of_ble_eq_true rfl, Nat.le_of_ble_eq_true rfl⟩ hD (Nat.le_of_ble_eq_true rfl) hl.1 ⟨by show _ ≤ 60; omega, by show _ ≤ 12000; omega⟩ dL_began_144 (fun w H locs hT hG => ?_)
    refine lv_bipush (v := 59) hx hb dL_began_147 (by decide) ?_
    have lD := dgs_1 (x := bD9 (cellv L xs (5 + i) &&& 2147483647)) (by omega)
    refine r_apC cg hG hT 59 (by decide) (by first | omega | (simp only [List.length_append, List.length_cons, List.length_nil]; omega)) ⟨Nat.le_of_ble_eq_true rfl, Nat.le_of_ble_eq_true rfl⟩ (by rfl) (Nat.le_of_ble_eq_true rfl) hl.1 ⟨by show _ ≤ 60; omega, by show _ ≤ 12000; omega⟩ dL_began_149 (fun w H locs hT hG => ?_)
    refine lv_pop hx hb dL_began_152 rfl ?_
    refine lv_iinc (v := nI (i + 1)) (lv' := (4, .int (nI (i + 1))) :: (5, .int (cellv L xs (5 + i) &&& 2147483647)) :: [(3, .ref bb), (2, .int (nI S)), (0, .ref (ad 0 0)), (1, .ref b)]) hx hb dL_began_153 hl (k := 1) rfl (nI_1 i) (by decide) rfl (fun ls hl => ?_)
    have hl : lv_has ls 8 [(4, .int (nI (i + 1))), (3, .ref bb), (2, .int (nI S)), (0, .ref (ad 0 0)), (1, .ref b)] := lv_sub hl [0, 2, 3, 4, 5] rfl
    refine W.widen (k := 12 + 9 * (i + 1)) (n := 2200 + 1800 * (i + 1)) (by omega) (by omega) ?_
    refine lv_goto (tgt := 64) hx hb dL_began_156 (by decide) ?_
    exact ih (i + 1) (by omega) w H locs ls hG hT hl
set_option maxHeartbeats 4000000 in
set_option maxRecDepth 100000 in
theorem beg_3 {p : Program} {l : Launch} {e : Env} {s : State} {m : MethodId} {args : Array Value} {below : List Frame} {meth : Method} {c : Code} {Γ : Wc} {ad : Nat → Nat → Nat} {σ : Sig} {b L : Nat} {xs : Nat → Int32} {bb : Nat} {Q : State → Prop} (cg : CGb Γ ad b L xs cL_began 8 p s m args c) (hL : L ≤ 260) {S : Nat} {tx : List Nat} (htx : tx.length ≤ 55) {n : Nat} (hn : 25 + fmod (cellv L xs 8) 50 = nI n ∧ n < 100) (K : ∀ (w : va_W) (H : Heap) (locs : List Loc) (ls : Array Slot), SGb Γ ad s σ w H locs → TL9 Γ.2.1 bb (((tx ++ txs 16) ++ dgs n) ++ [59]) w → lv_has ls 8 [(4, .int (nI 0)), (3, .ref bb), (2, .int (nI S)), (0, .ref (ad 0 0)), (1, .ref b)] → W p l e rmb s m args below meth c H locs (42) (8200) Q (F0 m 187 ls [])) {w : va_W} {H : Heap} {locs : List Loc} {ls : Array Slot} (hG : SGb Γ ad s σ w H locs) (hT : TL9 Γ.2.1 bb tx w) {v9 : Int32} (hl : lv_has ls 8 [(4, .int v9), (3, .ref bb), (2, .int (nI S)), (0, .ref (ad 0 0)), (1, .ref b)]) : W p l e rmb s m args below meth c H locs (39) (7600) Q (F0 m 159 ls []) := by
  have hx := cg.1.1
  have hb := cg.1.2.1
  have lt := txs_l.2.2
  have ln := dgs_2 n
  refine lv_aload_n hx hb dL_began_159 rfl (lv_at hl 1 rfl) ?_
  refine r_ldc cg.cx (k := 16) (by decide) ⟨rfl, rfl⟩ dL_began_160 ?_
  refine r_apS cg hG hT 16 (by decide) (by decide) (by first | omega | (simp only [List.length_append, List.length_cons, List.length_nil]; omega)) ⟨Nat.le_of_ble_eq_true rfl, Nat.le_of_ble_eq_true rfl⟩ (Nat.le_of_ble_eq_true rfl) hl.1 ⟨by show _ ≤ 60; omega, by show _ ≤ 12000; omega⟩ dL_began_162 (fun w H locs hT hG => ?_)
  refine lv_aload_n hx hb dL_began_165 rfl (lv_at hl 4 rfl) ?_
  refine lv_bipush (v := 8) hx hb dL_began_166 (by decide) ?_
  refine lv_bipush (v := 25) hx hb dL_began_168 (by decide) ?_
  refine lv_bipush (v := 50) hx hb dL_began_170 (by decide) ?_
  refine r_gA cg hG (As := [.ref b, .int (Int32.ofNat (8)), .int 25, .int 50]) (rest := [.ref bb]) (a_of l b L xs (8) 25 50 (by omega) hL (by decide)) mw13_148 ⟨Nat.le_of_ble_eq_true rfl, Nat.le_of_ble_eq_true rfl⟩ rfl (Nat.le_of_ble_eq_true rfl) hl.1 ⟨by show _ ≤ 60; omega, by show _ ≤ 12000; omega⟩ dL_began_172 (fun H locs hG => ?_)
  refine r_apI cg hG hT n hn.2 (by first | omega | (simp only [List.length_append, List.length_cons, List.length_nil]; omega)) ⟨Nat.le_of_ble_eq_true rfl, Nat.le_of_ble_eq_true rfl⟩ hn.1 (Nat.le_of_ble_eq_true rfl) hl.1 ⟨by show _ ≤ 60; omega, by show _ ≤ 12000; omega⟩ dL_began_175 (fun w H locs hT hG => ?_)
  refine lv_bipush (v := 59) hx hb dL_began_178 (by decide) ?_
  refine r_apC cg hG hT 59 (by decide) (by first | omega | (simp only [List.length_append, List.length_cons, List.length_nil]; omega)) ⟨Nat.le_of_ble_eq_true rfl, Nat.le_of_ble_eq_true rfl⟩ (by rfl) (Nat.le_of_ble_eq_true rfl) hl.1 ⟨by show _ ≤ 60; omega, by show _ ≤ 12000; omega⟩ dL_began_180 (fun w H locs hT hG => ?_)
  refine lv_pop hx hb dL_began_183 rfl ?_
  refine lv_iconst (v := 0) hx hb dL_began_184 (by decide) ?_
  refine lv_istore (lv' := [(4, .int 0), (3, .ref bb), (2, .int (nI S)), (0, .ref (ad 0 0)), (1, .ref b)]) hx hb dL_began_185 hl (by decide) rfl (fun ls hl => ?_)
  exact K w H locs ls hG hT hl
