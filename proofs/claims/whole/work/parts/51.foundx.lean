/-! THE MATHEMATICS, 32: the class's founding script, read -/
abbrev XS (T : Nat → Int32) (L : Nat) (σ : Sig) (p : Nat) (G : Gd) : Sig := xg (XP T L σ p 0 (-1)) 10 G
theorem xn {T : Nat → Int32} {L : Nat} {σ : Sig} (hX : TX T L σ) (G : Gd) {p q : Nat} {lo hi v : Int32} (hp : p ≤ L) (h1 : tE T L p = q) (h2 : tK T L q = 1) (h3 : tV T L q = v) (h4 : lo.toInt ≤ v.toInt ∧ v.toInt ≤ hi.toInt) : f9_nextNumber lo hi (XS T L σ p G) = some (v, XS T L σ q G) := by
  subst h1
  unfold f9_nextNumber f9_nextNumber_b14
  simp only [nm_eq, xg_0, XB_32, ↓reduceIte]
  rw [x_next hX G hp]
  simp only [bnd_eq]
  rw [x_num hX G (tE_le T hp), if_pos h2, h3, if_pos h4]
  simp only [bns_eq]
theorem xc {T : Nat → Int32} {L : Nat} {σ : Sig} (hX : TX T L σ) (G : Gd) {p q : Nat} (hp : p ≤ L) (h1 : tE T L p = q) (h2 : tK T L q = 2) : f9_isComplete (XS T L σ p G) = some (1, XS T L σ q G) := by
  subst h1
  unfold f9_isComplete f9_isComplete_b14
  simp only [nm_eq, xg_0, XB_32, ↓reduceIte]
  rw [x_next hX G hp]
  simp only [bnd_eq]
  rw [x_semi, if_pos h2]
  rfl
theorem xb {T : Nat → Int32} {L : Nat} {σ : Sig} (hX : TX T L σ) (G : Gd) {p q : Nat} (hp : p ≤ L) (h1 : tE T L p = q) : f9_readCommand_b195 (XS T L σ p G) = some (XS T L σ q G) := by
  subst h1
  unfold f9_readCommand_b195
  simp only [nm_eq, xg_0, XB_32, ↓reduceIte]
  rw [x_next hX G hp]
  rfl
theorem xd_Bed {T : Nat → Int32} {L : Nat} {σ : Sig} (hX : TX T L σ) (G : Gd) {p : Nat} (hp : p ≤ L) (hw : isw T L p (strB 2) = true) : f9_readCommand (XS T L σ p G) = bnd (f9_readBed (XS T L σ p G)) f9_readCommand_b195 := by
  have nn : ∀ j, j < 14 → ¬ j = 2 → isw T L p (strB j) = false := fun j hj hn => isw_no hw (fun e => hn (strD _ hj _ (by decide) e.symm))
  have xw : ∀ k, k < 30 → f6_isWord k (XS T L σ p G) = some (if isw T L p (strB k) = true then 1 else 0) := fun k hk => x_isWord hX G hp _ _ hk
  unfold f9_readCommand
  simp only [xw 2 (by decide), bnd_eq, i10, hw,  e10, not_true_eq_false, not_false_eq_true, Bool.false_eq_true, ↓reduceIte]
theorem xd_Sell {T : Nat → Int32} {L : Nat} {σ : Sig} (hX : TX T L σ) (G : Gd) {p : Nat} (hp : p ≤ L) (hw : isw T L p (strB 3) = true) : f9_readCommand (XS T L σ p G) = bnd (f9_readSell (XS T L σ p G)) f9_readCommand_b195 := by
  have nn : ∀ j, j < 14 → ¬ j = 3 → isw T L p (strB j) = false := fun j hj hn => isw_no hw (fun e => hn (strD _ hj _ (by decide) e.symm))
  have xw : ∀ k, k < 30 → f6_isWord k (XS T L σ p G) = some (if isw T L p (strB k) = true then 1 else 0) := fun k hk => x_isWord hX G hp _ _ hk
  unfold f9_readCommand
  simp only [xw 2 (by decide), xw 3 (by decide), bnd_eq, i10, hw, nn 2 (by decide) (by decide),  e10, not_true_eq_false, not_false_eq_true, Bool.false_eq_true, ↓reduceIte]
theorem xd_Visit {T : Nat → Int32} {L : Nat} {σ : Sig} (hX : TX T L σ) (G : Gd) {p : Nat} (hp : p ≤ L) (hw : isw T L p (strB 6) = true) : f9_readCommand (XS T L σ p G) = bnd (f9_readVisit (XS T L σ p G)) f9_readCommand_b195 := by
  have nn : ∀ j, j < 14 → ¬ j = 6 → isw T L p (strB j) = false := fun j hj hn => isw_no hw (fun e => hn (strD _ hj _ (by decide) e.symm))
  have xw : ∀ k, k < 30 → f6_isWord k (XS T L σ p G) = some (if isw T L p (strB k) = true then 1 else 0) := fun k hk => x_isWord hX G hp _ _ hk
  unfold f9_readCommand
  simp only [xw 2 (by decide), xw 3 (by decide), xw 6 (by decide), bnd_eq, i10, hw, nn 2 (by decide) (by decide), nn 3 (by decide) (by decide),  e10, not_true_eq_false, not_false_eq_true, Bool.false_eq_true, ↓reduceIte]
theorem xd_Pluck {T : Nat → Int32} {L : Nat} {σ : Sig} (hX : TX T L σ) (G : Gd) {p : Nat} (hp : p ≤ L) (hw : isw T L p (strB 7) = true) : f9_readCommand (XS T L σ p G) = bnd (f9_readPluck (XS T L σ p G)) f9_readCommand_b195 := by
  have nn : ∀ j, j < 14 → ¬ j = 7 → isw T L p (strB j) = false := fun j hj hn => isw_no hw (fun e => hn (strD _ hj _ (by decide) e.symm))
  have xw : ∀ k, k < 30 → f6_isWord k (XS T L σ p G) = some (if isw T L p (strB k) = true then 1 else 0) := fun k hk => x_isWord hX G hp _ _ hk
  unfold f9_readCommand
  simp only [xw 2 (by decide), xw 3 (by decide), xw 6 (by decide), xw 7 (by decide), bnd_eq, i10, hw, nn 2 (by decide) (by decide), nn 3 (by decide) (by decide), nn 6 (by decide) (by decide),  e10, not_true_eq_false, not_false_eq_true, Bool.false_eq_true, ↓reduceIte]
theorem xd_Lost {T : Nat → Int32} {L : Nat} {σ : Sig} (hX : TX T L σ) (G : Gd) {p : Nat} (hp : p ≤ L) (hw : isw T L p (strB 9) = true) : f9_readCommand (XS T L σ p G) = bnd (f9_readLost (XS T L σ p G)) f9_readCommand_b195 := by
  have nn : ∀ j, j < 14 → ¬ j = 9 → isw T L p (strB j) = false := fun j hj hn => isw_no hw (fun e => hn (strD _ hj _ (by decide) e.symm))
  have xw : ∀ k, k < 30 → f6_isWord k (XS T L σ p G) = some (if isw T L p (strB k) = true then 1 else 0) := fun k hk => x_isWord hX G hp _ _ hk
  unfold f9_readCommand
  simp only [xw 2 (by decide), xw 3 (by decide), xw 6 (by decide), xw 7 (by decide), xw 8 (by decide), xw 9 (by decide), bnd_eq, i10, hw, nn 2 (by decide) (by decide), nn 3 (by decide) (by decide), nn 6 (by decide) (by decide), nn 7 (by decide) (by decide), nn 8 (by decide) (by decide),  e10, not_true_eq_false, not_false_eq_true, Bool.false_eq_true, ↓reduceIte]
theorem xd_Pass {T : Nat → Int32} {L : Nat} {σ : Sig} (hX : TX T L σ) (G : Gd) {p : Nat} (hp : p ≤ L) (hw : isw T L p (strB 12) = true) : f9_readCommand (XS T L σ p G) = bnd (f9_readPass (XS T L σ p G)) f9_readCommand_b195 := by
  have nn : ∀ j, j < 14 → ¬ j = 12 → isw T L p (strB j) = false := fun j hj hn => isw_no hw (fun e => hn (strD _ hj _ (by decide) e.symm))
  have xw : ∀ k, k < 30 → f6_isWord k (XS T L σ p G) = some (if isw T L p (strB k) = true then 1 else 0) := fun k hk => x_isWord hX G hp _ _ hk
  unfold f9_readCommand
  simp only [xw 2 (by decide), xw 3 (by decide), xw 6 (by decide), xw 7 (by decide), xw 8 (by decide), xw 9 (by decide), xw 10 (by decide), xw 11 (by decide), xw 12 (by decide), bnd_eq, i10, hw, nn 2 (by decide) (by decide), nn 3 (by decide) (by decide), nn 6 (by decide) (by decide), nn 7 (by decide) (by decide), nn 8 (by decide) (by decide), nn 9 (by decide) (by decide), nn 10 (by decide) (by decide), nn 11 (by decide) (by decide),  e10, not_true_eq_false, not_false_eq_true, Bool.false_eq_true, ↓reduceIte]
theorem xstep {T : Nat → Int32} {L : Nat} {σ : Sig} (hX : TX T L σ) (G : Gd) {p p' n c : Nat} {G' : Gd} (hc : c < 500) (hw : tK T L p = 0) (hr : f9_readCommand (XS T L σ p G) = some (XS T L σ p' G')) : f9_execute_b30 (n + 1) (Int32.ofNat c) (XS T L σ p G) = f9_execute_b30 n (Int32.ofNat (c + 1)) (XS T L σ p' G') := by
  have ec := oN c (by omega)
  have e5 : (500 : Int32).toInt = 500 := rfl
  rw [f9_execute_b30, if_neg (by rw [Int32.le_iff_toInt_le, ec, e5]; omega)]
  unfold f9_goesOn
  simp only [nm_eq, xg_0, XB_32, XB_42, ↓reduceIte, kd3, hw]
  rw [if_neg (by decide)]
  simp only [bnd_eq, e10, ↓reduceIte, hr, oN1]
theorem xstop {T : Nat → Int32} {L : Nat} {σ : Sig} (hX : TX T L σ) (G : Gd) {p n c : Nat} (hw : tK T L p = 3) : f9_execute_b30 (n + 1) (Int32.ofNat c) (XS T L σ p G) = some (XS T L σ p G) := by
  rw [f9_execute_b30]
  unfold f9_goesOn
  simp only [nm_eq, xg_0, XB_32, XB_42, ↓reduceIte, kd3]
  rw [if_pos hw]
  simp only [bnd_eq, ↓reduceIte]
  split <;> rfl
theorem isw_k {T : Nat → Int32} {L p : Nat} {s : List Int32} (h : isw T L p s = true) : tK T L p = 0 := by
  unfold isw at h
  simp only [Bool.and_eq_true, decide_eq_true_eq] at h
  exact h.1.1
theorem xr_bed {T : Nat → Int32} {L : Nat} {σ : Sig} (hX : TX T L σ) (G : Gd) {p q1 q2 q3 q4 q5 q6 N : Nat} {a b c d : Int32} (hN : (G 3 0).toInt = N) (hN8 : N < 8) (hL : p ≤ L ∧ q1 ≤ L ∧ q2 ≤ L ∧ q3 ≤ L ∧ q4 ≤ L ∧ q5 ≤ L) (hw : isw T L p (strB 2) = true) (k1 : tE T L p = q1) (k2 : tK T L q1 = 1) (k3 : tV T L q1 = a) (k4 : tE T L q1 = q2) (k5 : tK T L q2 = 1) (k6 : tV T L q2 = b) (k7 : tE T L q2 = q3) (k8 : tK T L q3 = 1) (k9 : tV T L q3 = c) (k10 : tE T L q3 = q4) (k11 : tK T L q4 = 1) (k12 : tV T L q4 = d) (k13 : tE T L q4 = q5) (k14 : tK T L q5 = 2) (k15 : tE T L q5 = q6) (r1 : 0 ≤ a.toInt ∧ a.toInt < (G 2 0).toInt) (r2 : 1 ≤ b.toInt ∧ b.toInt ≤ 20) (r3 : 0 ≤ c.toInt ∧ c.toInt ≤ 99) (r4 : c.toInt ≤ d.toInt ∧ d.toInt ≤ 99) : f9_readCommand (XS T L σ p G) = some (XS T L σ q6 (Gbed G N a b c d)) := by
  have e1 := e_1 (x := G 2 0) (by omega)
  rw [xd_Bed hX G hL.1 hw]
  unfold f9_readBed
  simp only [nm_eq, xg_at, xn hX G hL.1 k1 k2 k3 (lo := 0) (hi := G 2 0 - 1) ⟨r1.1, by omega⟩, xn hX G hL.2.1 k4 k5 k6 (lo := 1) (hi := 20) r2, xn hX G hL.2.2.1 k7 k8 k9 (lo := 0) (hi := 99) r3, xn hX G hL.2.2.2.1 k10 k11 k12 (lo := c) (hi := 99) r4, xc hX G hL.2.2.2.2.1 k13 k14, bns_eq, bnd_eq, e10, ↓reduceIte, x_room0, if_pos (show (G 3 0).toInt < 8 by omega), x_exec1]
  rw [x_bed (by omega)]
  simp only [bns_eq, bnd_eq]
  rw [xb hX _ hL.2.2.2.2.2 k15, show (G 3 0).toInt.toNat = N from by omega]
theorem xr_sell {T : Nat → Int32} {L : Nat} {σ : Sig} (hX : TX T L σ) (G : Gd) {p q1 q2 q3 q4 q5 q6 N K : Nat} {a b c d : Int32} (h2 : 0 ≤ (G 2 0).toInt ∧ (G 2 0).toInt ≤ 5) (hN : (G 4 0).toInt = N) (hN8 : N < 30) (hK : (G 5 0).toInt = K) (hK8 : K < 50) (hL : p ≤ L ∧ q1 ≤ L ∧ q2 ≤ L ∧ q3 ≤ L ∧ q4 ≤ L ∧ q5 ≤ L) (hw : isw T L p (strB 3) = true) (k1 : tE T L p = q1) (k2 : tK T L q1 = 1) (k3 : tV T L q1 = a) (k4 : tE T L q1 = q2) (k5 : tK T L q2 = 1) (k6 : tV T L q2 = b) (k7 : tE T L q2 = q3) (k8 : tK T L q3 = 1) (k9 : tV T L q3 = c) (k10 : tE T L q3 = q4) (k11 : (isw T L q4 (strB 4) = true ∧ d = 0) ∨ (isw T L q4 (strB 5) = true ∧ d = 1)) (k13 : tE T L q4 = q5) (k14 : tK T L q5 = 2) (k15 : tE T L q5 = q6) (r1 : 1 ≤ a.toInt ∧ a.toInt ≤ (SA G).toInt) (r2 : (Td G).toInt ≤ b.toInt ∧ b.toInt ≤ 99) (r3 : 1 ≤ c.toInt ∧ c.toInt ≤ 14) : f9_readCommand (XS T L σ p G) = some (XS T L σ q6 (Gsel G N K a b c d (Pr G a c d))) := by
  have kd : f9_nextKind (XS T L σ q3 G) = some (d, XS T L σ q4 G) := by
    have xw : ∀ k, k < 30 → f6_isWord k (XS T L σ q4 G) = some (if isw T L q4 (strB k) = true then 1 else 0) := fun k hk => x_isWord hX G hL.2.2.2.2.1 _ _ hk
    unfold f9_nextKind f9_nextKind_b43
    simp only [nm_eq, xg_0, XB_32, ↓reduceIte]
    rw [x_next hX G hL.2.2.2.1, k10]
    simp only [bnd_eq, xw 4 (by decide), xw 5 (by decide), i10]
    rcases k11 with ⟨k, rfl⟩ | ⟨k, rfl⟩
    · have z : isw T L q4 (strB 5) = false := isw_no k (by decide +kernel)
      simp only [k, z, e10, not_true_eq_false, not_false_eq_true, Bool.false_eq_true, ↓reduceIte]
    · have z : isw T L q4 (strB 4) = false := isw_no k (by decide +kernel)
      simp only [k, z, e10, not_true_eq_false, not_false_eq_true, Bool.false_eq_true, ↓reduceIte]
  rw [xd_Sell hX G hL.1 hw]
  unfold f9_readSell
  simp only [x_all, bnd_eq, xn hX G hL.1 k1 k2 k3 (lo := 1) (hi := SA G) r1, bns_eq, x_today, xn hX G hL.2.1 k4 k5 k6 (lo := Td G) (hi := 99) r2, xn hX G hL.2.2.1 k7 k8 k9 (lo := 1) (hi := 14) r3, kd, xc hX G hL.2.2.2.2.1 k13 k14, e10, ↓reduceIte, x_canSell, if_pos (show (G 4 0).toInt < 30 ∧ (G 5 0).toInt < 50 by omega), x_exec1]
  rw [x_sell h2 (by omega) (by omega)]
  simp only [bns_eq, bnd_eq]
  rw [xb hX _ hL.2.2.2.2.2 k15, show (G 4 0).toInt.toNat = N from by omega, show (G 5 0).toInt.toNat = K from by omega]
theorem xr_pass {T : Nat → Int32} {L : Nat} {σ : Sig} (hX : TX T L σ) (G : Gd) {p q1 q2 q3 : Nat} {a : Int32} (hi : Iv G) (hL : p ≤ L ∧ q1 ≤ L ∧ q2 ≤ L) (hw : isw T L p (strB 12) = true) (k1 : tE T L p = q1) (k2 : tK T L q1 = 1) (k3 : tV T L q1 = a) (k4 : tE T L q1 = q2) (k14 : tK T L q2 = 2) (k15 : tE T L q2 = q3) (r1 : 1 ≤ a.toInt ∧ a.toInt ≤ 500) (r2 : (G 1 0).toInt + a.toInt ≤ 9599) : f9_readCommand (XS T L σ p G) = some (XS T L σ q3 (Gtk G a)) := by
  rw [xd_Pass hX G hL.1 hw]
  unfold f9_readPass
  simp only [bnd_eq, xn hX G hL.1 k1 k2 k3 (lo := 1) (hi := 500) r1, bns_eq, xc hX G hL.2.1 k4 k14, e10, ↓reduceIte, x_canGo hi (show 0 ≤ a.toInt ∧ a.toInt ≤ 9999 by omega), if_pos r2, x_exec1]
  rw [x_ticks hi ⟨r1.1, r2⟩]
  simp only [bns_eq, bnd_eq]
  rw [xb hX _ hL.2.2 k15]
theorem xr_lost {T : Nat → Int32} {L : Nat} {σ : Sig} (hX : TX T L σ) (G : Gd) {p q1 q2 q3 : Nat} {a : Int32} (hi : Iv G) (hL : p ≤ L ∧ q1 ≤ L ∧ q2 ≤ L) (hw : isw T L p (strB 9) = true) (k1 : tE T L p = q1) (k2 : tK T L q1 = 1) (k3 : tV T L q1 = a) (k4 : tE T L q1 = q2) (k14 : tK T L q2 = 2) (k15 : tE T L q2 = q3) (r1 : 0 ≤ a.toInt ∧ a.toInt < (G 4 0).toInt) (r2 : 0 ≤ (G 20 a.toInt.toNat).toInt) : f9_readCommand (XS T L σ p G) = some (XS T L σ q3 (Glos G a.toInt.toNat)) := by
  have h0 := hi.1
  have e1 := e_1 (x := G 4 0) (by omega)
  have am : 0 ≤ a.toInt ∧ a.toInt < 30 := by omega
  have h1 := hi.p (p := a.toInt.toNat) (by omega)
  rw [xd_Lost hX G hL.1 hw]
  unfold f9_readLost
  simp only [nm_eq, xg_at, bnd_eq, xn hX G hL.1 k1 k2 k3 (lo := 0) (hi := G 4 0 - 1) ⟨r1.1, by omega⟩, bns_eq, xc hX G hL.2.1 k4 k14, e10, ↓reduceIte, x_hasCard am, if_neg (show ¬ (G 20 a.toInt.toNat).toInt = -1 by omega), x_exec1]
  rw [x_block am (by omega) (by omega)]
  simp only [bns_eq, bnd_eq]
  rw [xb hX _ hL.2.2 k15]
theorem xr_visit {T : Nat → Int32} {L : Nat} {σ : Sig} (hX : TX T L σ) (G : Gd) {p q1 q2 q3 q4 : Nat} {a b : Int32} (hi : Iv G) (hL : p ≤ L ∧ q1 ≤ L ∧ q2 ≤ L ∧ q3 ≤ L) (hw : isw T L p (strB 6) = true) (k1 : tE T L p = q1) (k2 : tK T L q1 = 1) (k3 : tV T L q1 = a) (k4 : tE T L q1 = q2) (k5 : tK T L q2 = 1) (k6 : tV T L q2 = b) (k7 : tE T L q2 = q3) (k14 : tK T L q3 = 2) (k15 : tE T L q3 = q4) (r1 : 0 ≤ a.toInt ∧ a.toInt < (G 5 0).toInt) (r2 : 0 ≤ b.toInt ∧ b.toInt < (G 3 0).toInt) (r3 : Rf G a.toInt.toNat b.toInt.toNat = 0) : f9_readCommand (XS T L σ p G) = some (XS T L σ q4 (Gsho G a.toInt.toNat b.toInt.toNat b)) := by
  have h0 := hi.1
  have e1 := e_1 (x := G 5 0) (by omega)
  have e2 := e_1 (x := G 3 0) (by omega)
  rw [xd_Visit hX G hL.1 hw]
  unfold f9_readVisit f9_readVisit_b61
  simp only [nm_eq, xg_at, bnd_eq, xn hX G hL.1 k1 k2 k3 (lo := 0) (hi := G 5 0 - 1) ⟨r1.1, by omega⟩, bns_eq, xn hX G hL.2.1 k4 k5 k6 (lo := 0) (hi := G 3 0 - 1) ⟨r2.1, by omega⟩, xc hX G hL.2.2.1 k7 k14, e10, ↓reduceIte, x_show hi r1 r2, r3, x_exec1]
  rw [xb hX _ hL.2.2.2 k15]
theorem xr_pluck {T : Nat → Int32} {L : Nat} {σ : Sig} (hX : TX T L σ) (G : Gd) {p q1 q2 q3 q4 : Nat} {a b : Int32} (hi : Iv G) (hL : p ≤ L ∧ q1 ≤ L ∧ q2 ≤ L ∧ q3 ≤ L) (hw : isw T L p (strB 7) = true) (k1 : tE T L p = q1) (k2 : tK T L q1 = 1) (k3 : tV T L q1 = a) (k4 : tE T L q1 = q2) (k5 : tK T L q2 = 1) (k6 : tV T L q2 = b) (k7 : tE T L q2 = q3) (k14 : tK T L q3 = 2) (k15 : tE T L q3 = q4) (r1 : 0 ≤ a.toInt ∧ a.toInt < (G 5 0).toInt) (r2 : 1 ≤ b.toInt ∧ b.toInt ≤ 9) (r3 : CpP G a.toInt.toNat b) : f9_readCommand (XS T L σ p G) = some (XS T L σ q4 (Gplk G (G 27 a.toInt.toNat).toInt.toNat (G 25 (G 27 a.toInt.toNat).toInt.toNat).toInt.toNat (Fn G (G 25 (G 27 a.toInt.toNat).toInt.toNat).toInt.toNat b) b)) := by
  have h0 := hi.1
  have e1 := e_1 (x := G 5 0) (by omega)
  rw [xd_Pluck hX G hL.1 hw]
  unfold f9_readPluck
  simp only [nm_eq, xg_at, bnd_eq, xn hX G hL.1 k1 k2 k3 (lo := 0) (hi := G 5 0 - 1) ⟨r1.1, by omega⟩, bns_eq, xn hX G hL.2.1 k4 k5 k6 (lo := 1) (hi := 9) r2, xc hX G hL.2.2.1 k7 k14, e10, ↓reduceIte, x_canPluck hi r1, if_pos r3, x_exec1, x_pluck hi r1 r3]
  rw [xb hX _ hL.2.2.2 k15]
theorem x_price1 {T : Nat → Int32} {L : Nat} {σ : Sig} (hX : TX T L σ) (G : Gd) {p q N : Nat} {v : Int32} (hp : p ≤ L) (hN : (G 2 0).toInt = N) (hN5 : N < 5) (h2 : tK T L p = 1) (h3 : tV T L p = v) (h1 : tE T L p = q) (h4 : 1 ≤ v.toInt ∧ v.toInt ≤ 99) : f9_readPrice (XS T L σ p G) = some (XS T L σ q (Gsc G N v)) := by
  subst h1
  have h4' : (1 : Int32).toInt ≤ v.toInt ∧ v.toInt ≤ (99 : Int32).toInt := h4
  unfold f9_readPrice f9_readPrice_b26
  rw [x_num hX G hp, if_pos h2, h3, if_pos h4']
  simp only [bns_eq, x_room10, bnd_eq, if_pos (show (G 2 0).toInt < 5 by omega), e10, ↓reduceIte, nm_eq, xg_0, XB_32]
  rw [x_scent (by omega)]
  simp only [bnd_eq]
  rw [x_next hX _ hp, show (G 2 0).toInt.toNat = N from by omega]
  rfl
theorem x_more {T : Nat → Int32} {L : Nat} {σ : Sig} (hX : TX T L σ) (G : Gd) {fu p : Nat} {x1 : Int32} {X' : Sig} (h5 : x1.toInt ≤ 5) (h2 : tK T L p = 1) (hr : f9_readPrice (XS T L σ p G) = some X') : f9_readGarden_b31 (fu + 1) x1 (XS T L σ p G) = f9_readGarden_b31 fu (x1 + 1) X' := by
  rw [f9_readGarden_b31, if_neg (by rw [Int32.lt_iff_toInt_lt, show (5 : Int32).toInt = 5 from rfl]; omega)]
  simp only [nm_eq, xg_0, XB_32, XB_42, kd1, ↓reduceIte]
  rw [if_pos h2, hr]
  simp only [bnd_eq]
theorem x_done {T : Nat → Int32} {L : Nat} {σ : Sig} (hX : TX T L σ) (G : Gd) {fu p q : Nat} {x1 : Int32} (hp : p ≤ L) (h5 : x1.toInt ≤ 5) (h2 : tK T L p = 2) (h1 : tE T L p = q) : f9_readGarden_b31 (fu + 1) x1 (XS T L σ p G) = some (XS T L σ q G) := by
  subst h1
  rw [f9_readGarden_b31, if_neg (by rw [Int32.lt_iff_toInt_lt, show (5 : Int32).toInt = 5 from rfl]; omega)]
  unfold f9_readGarden_b64
  simp only [nm_eq, xg_0, XB_32, XB_42, kd1, h2, ↓reduceIte]
  rw [if_neg (by decide), x_semi, if_pos h2]
  simp only [bns_eq, ↓reduceIte, e10]
  rw [x_next hX _ hp]
  rfl
