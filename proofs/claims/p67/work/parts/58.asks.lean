/-! what only asks: the answers, where nothing is thrown -/
theorem gz_ok {β : Type} {v : Int32} (h : v = 0 ∨ v = 1) (x : Option β) : gz v x = x := by
  rcases h with rfl | rfl <;> rfl
section ASK
variable {σ : Sig} {G : Gd}
theorem q_pass {p : Int32} (hp : 0 ≤ p.toInt ∧ p.toInt < (G 4 0).toInt) : f11_requirePass p (xg σ 8 G) = some (0, 0, xg σ 8 G) := by rw [x_pass, if_pos hp]
theorem q_bed {p : Int32} (hp : 0 ≤ p.toInt ∧ p.toInt < (G 3 0).toInt) : f11_requireBed p (xg σ 8 G) = some (0, 0, xg σ 8 G) := by rw [x_bedq, if_pos hp]
theorem q_card {p : Int32} (hp : 0 ≤ p.toInt ∧ p.toInt < (G 5 0).toInt) : f11_requireCard p (xg σ 8 G) = some (0, 0, xg σ 8 G) := by rw [x_cardq, if_pos hp]
theorem v_visitsWith (hi : Iv G) {p : Int32} (hp : 0 ≤ p.toInt ∧ p.toInt < (G 4 0).toInt) : f11_visitsWith p (xg σ 8 G) = some (0, G 23 p.toInt.toNat, xg σ 8 G) := by
  have h0 := hi.1
  have hx : 0 ≤ p.toInt ∧ p.toInt < ((30 : Nat) : Int) := by omega
  unfold f11_visitsWith
  simp only [q_pass hp, nm_ap, bnd_ap, bns_ap, bnx_ap0, bnx_ap1, bnx_ap2, bnx_ap3, bnx_ap4, gz_0, gz_1, dvd_96, dvd_2, dvd_10000, rmd_96, rmd_8, xg_at, xg_0, mr_at, up_xg, up_mr, narz_0, narz_1, i10, i01, i11, i00, ↓reduceIte, e10, e01, e50, e51, e20, e60, e70, e30, e40, Classical.not_not, not_true_eq_false, not_false_eq_true, x_range, Int32.reduceToInt, x_state, ite_not, ald_in hx]
theorem v_cardOf (hi : Iv G) {p : Int32} (hp : 0 ≤ p.toInt ∧ p.toInt < (G 4 0).toInt) : f11_cardOf p (xg σ 8 G) = some (0, G 20 p.toInt.toNat, xg σ 8 G) := by
  have h0 := hi.1
  have hx : 0 ≤ p.toInt ∧ p.toInt < ((30 : Nat) : Int) := by omega
  unfold f11_cardOf
  simp only [q_pass hp, nm_ap, bnd_ap, bns_ap, bnx_ap0, bnx_ap1, bnx_ap2, bnx_ap3, bnx_ap4, gz_0, gz_1, dvd_96, dvd_2, dvd_10000, rmd_96, rmd_8, xg_at, xg_0, mr_at, up_xg, up_mr, narz_0, narz_1, i10, i01, i11, i00, ↓reduceIte, e10, e01, e50, e51, e20, e60, e70, e30, e40, Classical.not_not, not_true_eq_false, not_false_eq_true, x_range, Int32.reduceToInt, x_state, ite_not, ald_in hx]
theorem v_firstDay (hi : Iv G) {p : Int32} (hp : 0 ≤ p.toInt ∧ p.toInt < (G 4 0).toInt) : f11_firstDay p (xg σ 8 G) = some (0, G 16 p.toInt.toNat, xg σ 8 G) := by
  have h0 := hi.1
  have hx : 0 ≤ p.toInt ∧ p.toInt < ((30 : Nat) : Int) := by omega
  unfold f11_firstDay
  simp only [q_pass hp, nm_ap, bnd_ap, bns_ap, bnx_ap0, bnx_ap1, bnx_ap2, bnx_ap3, bnx_ap4, gz_0, gz_1, dvd_96, dvd_2, dvd_10000, rmd_96, rmd_8, xg_at, xg_0, mr_at, up_xg, up_mr, narz_0, narz_1, i10, i01, i11, i00, ↓reduceIte, e10, e01, e50, e51, e20, e60, e70, e30, e40, Classical.not_not, not_true_eq_false, not_false_eq_true, x_range, Int32.reduceToInt, x_state, ite_not, ald_in hx]
theorem v_lastDay (hi : Iv G) {p : Int32} (hp : 0 ≤ p.toInt ∧ p.toInt < (G 4 0).toInt) : f11_lastDay p (xg σ 8 G) = some (0, G 16 p.toInt.toNat + G 17 p.toInt.toNat - 1, xg σ 8 G) := by
  have h0 := hi.1
  have hx : 0 ≤ p.toInt ∧ p.toInt < 30 := by omega
  unfold f11_lastDay
  simp only [q_pass hp, nm_ap, bnd_ap, bns_ap, bnx_ap0, bnx_ap1, bnx_ap2, bnx_ap3, bnx_ap4, gz_0, gz_1, dvd_96, dvd_2, dvd_10000, rmd_96, rmd_8, xg_at, xg_0, mr_at, up_xg, up_mr, narz_0, narz_1, i10, i01, i11, i00, ↓reduceIte, e10, e01, e50, e51, e20, e60, e70, e30, e40, Classical.not_not, not_true_eq_false, not_false_eq_true, x_range, Int32.reduceToInt, x_state, ite_not, x_final hx]
theorem v_priceOf (hi : Iv G) {p : Int32} (hp : 0 ≤ p.toInt ∧ p.toInt < (G 4 0).toInt) : f11_priceOf p (xg σ 8 G) = some (0, G 19 p.toInt.toNat, xg σ 8 G) := by
  have h0 := hi.1
  have hx : 0 ≤ p.toInt ∧ p.toInt < ((30 : Nat) : Int) := by omega
  unfold f11_priceOf
  simp only [q_pass hp, nm_ap, bnd_ap, bns_ap, bnx_ap0, bnx_ap1, bnx_ap2, bnx_ap3, bnx_ap4, gz_0, gz_1, dvd_96, dvd_2, dvd_10000, rmd_96, rmd_8, xg_at, xg_0, mr_at, up_xg, up_mr, narz_0, narz_1, i10, i01, i11, i00, ↓reduceIte, e10, e01, e50, e51, e20, e60, e70, e30, e40, Classical.not_not, not_true_eq_false, not_false_eq_true, x_range, Int32.reduceToInt, x_state, ite_not, ald_in hx]
theorem v_owed (hi : Iv G) {p : Int32} (hp : 0 ≤ p.toInt ∧ p.toInt < (G 4 0).toInt) : f11_owed p (xg σ 8 G) = some (0, G 26 p.toInt.toNat, xg σ 8 G) := by
  have h0 := hi.1
  have hx : 0 ≤ p.toInt ∧ p.toInt < ((30 : Nat) : Int) := by omega
  unfold f11_owed
  simp only [q_pass hp, nm_ap, bnd_ap, bns_ap, bnx_ap0, bnx_ap1, bnx_ap2, bnx_ap3, bnx_ap4, gz_0, gz_1, dvd_96, dvd_2, dvd_10000, rmd_96, rmd_8, xg_at, xg_0, mr_at, up_xg, up_mr, narz_0, narz_1, i10, i01, i11, i00, ↓reduceIte, e10, e01, e50, e51, e20, e60, e70, e30, e40, Classical.not_not, not_true_eq_false, not_false_eq_true, x_range, Int32.reduceToInt, x_state, ite_not, ald_in hx]
theorem v_usedDays (hi : Iv G) {p : Int32} (hp : 0 ≤ p.toInt ∧ p.toInt < (G 4 0).toInt) : f11_usedDays p (xg σ 8 G) = some (0, bitc (G 22 p.toInt.toNat), xg σ 8 G) := by
  have h0 := hi.1
  have hx : 0 ≤ p.toInt ∧ p.toInt < 30 := by omega
  unfold f11_usedDays
  simp only [q_pass hp, nm_ap, bnd_ap, bns_ap, bnx_ap0, bnx_ap1, bnx_ap2, bnx_ap3, bnx_ap4, gz_0, gz_1, dvd_96, dvd_2, dvd_10000, rmd_96, rmd_8, xg_at, xg_0, mr_at, up_xg, up_mr, narz_0, narz_1, i10, i01, i11, i00, ↓reduceIte, e10, e01, e50, e51, e20, e60, e70, e30, e40, Classical.not_not, not_true_eq_false, not_false_eq_true, x_range, Int32.reduceToInt, x_state, ite_not, x_used hx]
theorem v_refundOf (hi : Iv G) {p : Int32} (hp : 0 ≤ p.toInt ∧ p.toInt < (G 4 0).toInt) : f11_refundOf p (xg σ 8 G) = some (0, Rd G p.toInt.toNat, xg σ 8 G) := by
  unfold f11_refundOf
  simp only [q_pass hp, nm_ap, bnd_ap, bns_ap, bnx_ap0, bnx_ap1, bnx_ap2, bnx_ap3, bnx_ap4, gz_0, gz_1, dvd_96, dvd_2, dvd_10000, rmd_96, rmd_8, xg_at, xg_0, mr_at, up_xg, up_mr, narz_0, narz_1, i10, i01, i11, i00, ↓reduceIte, e10, e01, e50, e51, e20, e60, e70, e30, e40, Classical.not_not, not_true_eq_false, not_false_eq_true, x_range, Int32.reduceToInt, x_state, ite_not, x_refund hi hp]
theorem v_ticksUntilReady (hi : Iv G) {p : Int32} (hp : 0 ≤ p.toInt ∧ p.toInt < (G 4 0).toInt) : f11_ticksUntilReady p (xg σ 8 G) = some (0, Wt G p.toInt.toNat, xg σ 8 G) := by
  unfold f11_ticksUntilReady
  simp only [q_pass hp, nm_ap, bnd_ap, bns_ap, bnx_ap0, bnx_ap1, bnx_ap2, bnx_ap3, bnx_ap4, gz_0, gz_1, dvd_96, dvd_2, dvd_10000, rmd_96, rmd_8, xg_at, xg_0, mr_at, up_xg, up_mr, narz_0, narz_1, i10, i01, i11, i00, ↓reduceIte, e10, e01, e50, e51, e20, e60, e70, e30, e40, Classical.not_not, not_true_eq_false, not_false_eq_true, x_range, Int32.reduceToInt, x_state, ite_not, x_wait hi hp]
theorem v_isReturned (hi : Iv G) {p : Int32} (hp : 0 ≤ p.toInt ∧ p.toInt < (G 4 0).toInt) : f11_isReturned p (xg σ 8 G) = some (0, G 21 p.toInt.toNat, xg σ 8 G) := by
  have h0 := hi.1
  have h1 := hi.p (p := p.toInt.toNat) (by omega)
  have hx : 0 ≤ p.toInt ∧ p.toInt < ((30 : Nat) : Int) := by omega
  unfold f11_isReturned
  simp only [q_pass hp, nm_ap, bnd_ap, bns_ap, bnx_ap0, bnx_ap1, bnx_ap2, bnx_ap3, bnx_ap4, gz_0, gz_1, dvd_96, dvd_2, dvd_10000, rmd_96, rmd_8, xg_at, xg_0, mr_at, up_xg, up_mr, narz_0, narz_1, i10, i01, i11, i00, ↓reduceIte, e10, e01, e50, e51, e20, e60, e70, e30, e40, Classical.not_not, not_true_eq_false, not_false_eq_true, x_range, Int32.reduceToInt, x_state, ite_not, ald_in hx]
  exact gz_ok (b01 (by omega)) _
theorem v_passOf (hi : Iv G) {k : Int32} (hk : 0 ≤ k.toInt ∧ k.toInt < (G 5 0).toInt) : f11_passOf k (xg σ 8 G) = some (0, G 27 k.toInt.toNat, xg σ 8 G) := by
  have h0 := hi.1
  have hx : 0 ≤ k.toInt ∧ k.toInt < ((50 : Nat) : Int) := by omega
  unfold f11_passOf
  simp only [q_card hk, nm_ap, bnd_ap, bns_ap, bnx_ap0, bnx_ap1, bnx_ap2, bnx_ap3, bnx_ap4, gz_0, gz_1, dvd_96, dvd_2, dvd_10000, rmd_96, rmd_8, xg_at, xg_0, mr_at, up_xg, up_mr, narz_0, narz_1, i10, i01, i11, i00, ↓reduceIte, e10, e01, e50, e51, e20, e60, e70, e30, e40, Classical.not_not, not_true_eq_false, not_false_eq_true, x_range, Int32.reduceToInt, x_state, ite_not, ald_in hx]
theorem v_isBlocked (hi : Iv G) {k : Int32} (hk : 0 ≤ k.toInt ∧ k.toInt < (G 5 0).toInt) : f11_isBlocked k (xg σ 8 G) = some (0, G 28 k.toInt.toNat, xg σ 8 G) := by
  have h0 := hi.1
  have h1 := hi.k (k := k.toInt.toNat) (by omega)
  have hx : 0 ≤ k.toInt ∧ k.toInt < ((50 : Nat) : Int) := by omega
  unfold f11_isBlocked
  simp only [q_card hk, nm_ap, bnd_ap, bns_ap, bnx_ap0, bnx_ap1, bnx_ap2, bnx_ap3, bnx_ap4, gz_0, gz_1, dvd_96, dvd_2, dvd_10000, rmd_96, rmd_8, xg_at, xg_0, mr_at, up_xg, up_mr, narz_0, narz_1, i10, i01, i11, i00, ↓reduceIte, e10, e01, e50, e51, e20, e60, e70, e30, e40, Classical.not_not, not_true_eq_false, not_false_eq_true, x_range, Int32.reduceToInt, x_state, ite_not, ald_in hx]
  exact gz_ok (b01 (by omega)) _
theorem v_visitsTo (hi : Iv G) {b : Int32} (hb : 0 ≤ b.toInt ∧ b.toInt < (G 3 0).toInt) : f11_visitsTo b (xg σ 8 G) = some (0, G 13 b.toInt.toNat, xg σ 8 G) := by
  have h0 := hi.1
  have hx : 0 ≤ b.toInt ∧ b.toInt < ((8 : Nat) : Int) := by omega
  unfold f11_visitsTo
  simp only [q_bed hb, nm_ap, bnd_ap, bns_ap, bnx_ap0, bnx_ap1, bnx_ap2, bnx_ap3, bnx_ap4, gz_0, gz_1, dvd_96, dvd_2, dvd_10000, rmd_96, rmd_8, xg_at, xg_0, mr_at, up_xg, up_mr, narz_0, narz_1, i10, i01, i11, i00, ↓reduceIte, e10, e01, e50, e51, e20, e60, e70, e30, e40, Classical.not_not, not_true_eq_false, not_false_eq_true, x_range, Int32.reduceToInt, x_state, ite_not, ald_in hx]
theorem v_blooms (hi : Iv G) {b : Int32} (hb : 0 ≤ b.toInt ∧ b.toInt < (G 3 0).toInt) : f11_blooms b (xg σ 8 G) = some (0, G 12 b.toInt.toNat, xg σ 8 G) := by
  have h0 := hi.1
  have hx : 0 ≤ b.toInt ∧ b.toInt < ((8 : Nat) : Int) := by omega
  unfold f11_blooms
  simp only [q_bed hb, nm_ap, bnd_ap, bns_ap, bnx_ap0, bnx_ap1, bnx_ap2, bnx_ap3, bnx_ap4, gz_0, gz_1, dvd_96, dvd_2, dvd_10000, rmd_96, rmd_8, xg_at, xg_0, mr_at, up_xg, up_mr, narz_0, narz_1, i10, i01, i11, i00, ↓reduceIte, e10, e01, e50, e51, e20, e60, e70, e30, e40, Classical.not_not, not_true_eq_false, not_false_eq_true, x_range, Int32.reduceToInt, x_state, ite_not, ald_in hx]
theorem v_placesLeft (hi : Iv G) {b : Int32} (hb : 0 ≤ b.toInt ∧ b.toInt < (G 3 0).toInt) : f11_placesLeft b (xg σ 8 G) = some (0, G 9 b.toInt.toNat - G 14 b.toInt.toNat, xg σ 8 G) := by
  have h0 := hi.1
  have hx : 0 ≤ b.toInt ∧ b.toInt < 8 := by omega
  unfold f11_placesLeft
  simp only [q_bed hb, nm_ap, bnd_ap, bns_ap, bnx_ap0, bnx_ap1, bnx_ap2, bnx_ap3, bnx_ap4, gz_0, gz_1, dvd_96, dvd_2, dvd_10000, rmd_96, rmd_8, xg_at, xg_0, mr_at, up_xg, up_mr, narz_0, narz_1, i10, i01, i11, i00, ↓reduceIte, e10, e01, e50, e51, e20, e60, e70, e30, e40, Classical.not_not, not_true_eq_false, not_false_eq_true, x_range, Int32.reduceToInt, x_state, ite_not, x_free hx]
theorem v_isInSeason (hi : Iv G) {b : Int32} (hb : 0 ≤ b.toInt ∧ b.toInt < (G 3 0).toInt) : f11_isInSeason b (xg σ 8 G) = some (0, Se G b.toInt.toNat (Td G), xg σ 8 G) := by
  have h0 := hi.1
  have hx : 0 ≤ b.toInt ∧ b.toInt < 8 := by omega
  unfold f11_isInSeason
  simp only [q_bed hb, nm_ap, bnd_ap, bns_ap, bnx_ap0, bnx_ap1, bnx_ap2, bnx_ap3, bnx_ap4, gz_0, gz_1, dvd_96, dvd_2, dvd_10000, rmd_96, rmd_8, xg_at, xg_0, mr_at, up_xg, up_mr, narz_0, narz_1, i10, i01, i11, i00, ↓reduceIte, e10, e01, e50, e51, e20, e60, e70, e30, e40, Classical.not_not, not_true_eq_false, not_false_eq_true, x_range, Int32.reduceToInt, x_state, ite_not, x_today, x_season hx]
  exact gz_ok (Se_b _ _ _) _
theorem v_whyRefused (hi : Iv G) {k b : Int32} (hk : 0 ≤ k.toInt ∧ k.toInt < (G 5 0).toInt) (hb : 0 ≤ b.toInt ∧ b.toInt < (G 3 0).toInt) : f11_whyRefused k b (xg σ 8 G) = some (0, Rf G k.toInt.toNat b.toInt.toNat, xg σ 8 G) := by
  unfold f11_whyRefused
  simp only [q_card hk, q_bed hb, nm_ap, bnd_ap, bns_ap, bnx_ap0, bnx_ap1, bnx_ap2, bnx_ap3, bnx_ap4, gz_0, gz_1, dvd_96, dvd_2, dvd_10000, rmd_96, rmd_8, xg_at, xg_0, mr_at, up_xg, up_mr, narz_0, narz_1, i10, i01, i11, i00, ↓reduceIte, e10, e01, e50, e51, e20, e60, e70, e30, e40, Classical.not_not, not_true_eq_false, not_false_eq_true, x_range, Int32.reduceToInt, x_state, ite_not, x_refusal hi hk hb]
theorem v_passCount : f11_passCount (xg σ 8 G) = some (G 4 0) := by unfold f11_passCount; simp only [nm_ap, bnd_ap, bns_ap, bnx_ap0, bnx_ap1, bnx_ap2, bnx_ap3, bnx_ap4, gz_0, gz_1, dvd_96, dvd_2, dvd_10000, rmd_96, rmd_8, xg_at, xg_0, mr_at, up_xg, up_mr, narz_0, narz_1, i10, i01, i11, i00, ↓reduceIte, e10, e01, e50, e51, e20, e60, e70, e30, e40, Classical.not_not, not_true_eq_false, not_false_eq_true, x_range, Int32.reduceToInt, x_state, ite_not]
theorem v_cardCount : f11_cardCount (xg σ 8 G) = some (G 5 0) := by unfold f11_cardCount; simp only [nm_ap, bnd_ap, bns_ap, bnx_ap0, bnx_ap1, bnx_ap2, bnx_ap3, bnx_ap4, gz_0, gz_1, dvd_96, dvd_2, dvd_10000, rmd_96, rmd_8, xg_at, xg_0, mr_at, up_xg, up_mr, narz_0, narz_1, i10, i01, i11, i00, ↓reduceIte, e10, e01, e50, e51, e20, e60, e70, e30, e40, Classical.not_not, not_true_eq_false, not_false_eq_true, x_range, Int32.reduceToInt, x_state, ite_not]
theorem v_bedCount : f11_bedCount (xg σ 8 G) = some (G 3 0) := by unfold f11_bedCount; simp only [nm_ap, bnd_ap, bns_ap, bnx_ap0, bnx_ap1, bnx_ap2, bnx_ap3, bnx_ap4, gz_0, gz_1, dvd_96, dvd_2, dvd_10000, rmd_96, rmd_8, xg_at, xg_0, mr_at, up_xg, up_mr, narz_0, narz_1, i10, i01, i11, i00, ↓reduceIte, e10, e01, e50, e51, e20, e60, e70, e30, e40, Classical.not_not, not_true_eq_false, not_false_eq_true, x_range, Int32.reduceToInt, x_state, ite_not]
theorem v_time : f11_time (xg σ 8 G) = some (G 1 0) := by unfold f11_time; simp only [nm_ap, bnd_ap, bns_ap, bnx_ap0, bnx_ap1, bnx_ap2, bnx_ap3, bnx_ap4, gz_0, gz_1, dvd_96, dvd_2, dvd_10000, rmd_96, rmd_8, xg_at, xg_0, mr_at, up_xg, up_mr, narz_0, narz_1, i10, i01, i11, i00, ↓reduceIte, e10, e01, e50, e51, e20, e60, e70, e30, e40, Classical.not_not, not_true_eq_false, not_false_eq_true, x_range, Int32.reduceToInt, x_state, ite_not]
theorem v_takings : f11_takings (xg σ 8 G) = some (G 6 0 - G 6 1) := by unfold f11_takings; simp only [nm_ap, bnd_ap, bns_ap, bnx_ap0, bnx_ap1, bnx_ap2, bnx_ap3, bnx_ap4, gz_0, gz_1, dvd_96, dvd_2, dvd_10000, rmd_96, rmd_8, xg_at, xg_0, mr_at, up_xg, up_mr, narz_0, narz_1, i10, i01, i11, i00, ↓reduceIte, e10, e01, e50, e51, e20, e60, e70, e30, e40, Classical.not_not, not_true_eq_false, not_false_eq_true, x_range, Int32.reduceToInt, x_state, ite_not]
theorem v_refunds : f11_refunds (xg σ 8 G) = some (G 6 1) := by unfold f11_refunds; simp only [nm_ap, bnd_ap, bns_ap, bnx_ap0, bnx_ap1, bnx_ap2, bnx_ap3, bnx_ap4, gz_0, gz_1, dvd_96, dvd_2, dvd_10000, rmd_96, rmd_8, xg_at, xg_0, mr_at, up_xg, up_mr, narz_0, narz_1, i10, i01, i11, i00, ↓reduceIte, e10, e01, e50, e51, e20, e60, e70, e30, e40, Classical.not_not, not_true_eq_false, not_false_eq_true, x_range, Int32.reduceToInt, x_state, ite_not]
theorem v_finesPaid : f11_finesPaid (xg σ 8 G) = some (G 6 3) := by unfold f11_finesPaid; simp only [nm_ap, bnd_ap, bns_ap, bnx_ap0, bnx_ap1, bnx_ap2, bnx_ap3, bnx_ap4, gz_0, gz_1, dvd_96, dvd_2, dvd_10000, rmd_96, rmd_8, xg_at, xg_0, mr_at, up_xg, up_mr, narz_0, narz_1, i10, i01, i11, i00, ↓reduceIte, e10, e01, e50, e51, e20, e60, e70, e30, e40, Classical.not_not, not_true_eq_false, not_false_eq_true, x_range, Int32.reduceToInt, x_state, ite_not]
theorem v_plucked : f11_plucked (xg σ 8 G) = some (G 6 4) := by unfold f11_plucked; simp only [nm_ap, bnd_ap, bns_ap, bnx_ap0, bnx_ap1, bnx_ap2, bnx_ap3, bnx_ap4, gz_0, gz_1, dvd_96, dvd_2, dvd_10000, rmd_96, rmd_8, xg_at, xg_0, mr_at, up_xg, up_mr, narz_0, narz_1, i10, i01, i11, i00, ↓reduceIte, e10, e01, e50, e51, e20, e60, e70, e30, e40, Classical.not_not, not_true_eq_false, not_false_eq_true, x_range, Int32.reduceToInt, x_state, ite_not]
theorem v_alarms : f11_alarms (xg σ 8 G) = some (G 6 5) := by unfold f11_alarms; simp only [nm_ap, bnd_ap, bns_ap, bnx_ap0, bnx_ap1, bnx_ap2, bnx_ap3, bnx_ap4, gz_0, gz_1, dvd_96, dvd_2, dvd_10000, rmd_96, rmd_8, xg_at, xg_0, mr_at, up_xg, up_mr, narz_0, narz_1, i10, i01, i11, i00, ↓reduceIte, e10, e01, e50, e51, e20, e60, e70, e30, e40, Classical.not_not, not_true_eq_false, not_false_eq_true, x_range, Int32.reduceToInt, x_state, ite_not]
theorem v_day : f11_day (xg σ 8 G) = some (Td G) := by unfold f11_day; simp only [nm_ap, bnd_ap, bns_ap, bnx_ap0, bnx_ap1, bnx_ap2, bnx_ap3, bnx_ap4, gz_0, gz_1, dvd_96, dvd_2, dvd_10000, rmd_96, rmd_8, xg_at, xg_0, mr_at, up_xg, up_mr, narz_0, narz_1, i10, i01, i11, i00, ↓reduceIte, e10, e01, e50, e51, e20, e60, e70, e30, e40, Classical.not_not, not_true_eq_false, not_false_eq_true, x_range, Int32.reduceToInt, x_state, ite_not, x_today]
theorem v_isOpen : f11_isOpen (xg σ 8 G) = some (Opn G (Tk G)) := by
  unfold f11_isOpen
  simp only [nm_ap, bnd_ap, bns_ap, bnx_ap0, bnx_ap1, bnx_ap2, bnx_ap3, bnx_ap4, gz_0, gz_1, dvd_96, dvd_2, dvd_10000, rmd_96, rmd_8, xg_at, xg_0, mr_at, up_xg, up_mr, narz_0, narz_1, i10, i01, i11, i00, ↓reduceIte, e10, e01, e50, e51, e20, e60, e70, e30, e40, Classical.not_not, not_true_eq_false, not_false_eq_true, x_range, Int32.reduceToInt, x_state, ite_not, x_tick, x_isOpen]
  exact gz_ok (Opn_b _ _) _
theorem v_violations (hi : Iv G) (hj : Jv G) : f11_violations (xg σ 8 G) = some 0 := by rw [x_viol hi, viol_0 hi hj]
theorem wait_ok : ∀ (fu k : Nat), k ≤ 96 → 96 < fu + k → ∃ r, f3_waitForOpening_b2 8 fu (Int32.ofNat k) (xg σ 8 G) = some r := by
  intro fu
  induction fu with
  | zero => intro k h1 h2; omega
  | succ fu ih =>
    intro k h1 h2
    have ek := oN k (by omega)
    have e96 : (96 : Int32).toInt = 96 := rfl
    rw [f3_waitForOpening_b2]
    by_cases hk : k = 96
    · have c : (96 : Int32) ≤ Int32.ofNat k := by rw [Int32.le_iff_toInt_le, ek, e96]; omega
      rw [if_pos c]
      exact ⟨_, rfl⟩
    · have c : ¬ (96 : Int32) ≤ Int32.ofNat k := by rw [Int32.le_iff_toInt_le, ek, e96]; omega
      rw [if_neg c]
      simp only [nm_ap, bnd_ap, bns_ap, bnx_ap0, bnx_ap1, bnx_ap2, bnx_ap3, bnx_ap4, gz_0, gz_1, dvd_96, dvd_2, dvd_10000, rmd_96, rmd_8, xg_at, xg_0, mr_at, up_xg, up_mr, narz_0, narz_1, i10, i01, i11, i00, ↓reduceIte, e10, e01, e50, e51, e20, e60, e70, e30, e40, Classical.not_not, not_true_eq_false, not_false_eq_true, x_range, Int32.reduceToInt, x_state, ite_not, x_isOpen, oN1]
      by_cases ho : Opn G (G 1 0 + Int32.ofNat k - (G 1 0 + Int32.ofNat k) / 96 * 96) = 0
      · rw [if_pos ho]
        exact ih (k + 1) (by omega) (by omega)
      · rw [if_neg ho]
        exact ⟨_, rfl⟩
theorem v_ticksUntilOpen : ∃ r, f11_ticksUntilOpen (xg σ 8 G) = some r ∧ (¬ Opn G (Tk G) = 0 → r = 0) := by
  by_cases ho : Opn G (Tk G) = 0
  · obtain ⟨r, q⟩ := wait_ok (σ := σ) (G := G) FU 0 (by omega) (by unfold FU; omega)
    have q' : f3_waitForOpening 8 (xg σ 8 G) = some r := q
    refine ⟨r, ?_, fun h => absurd ho h⟩
    unfold f11_ticksUntilOpen
    rw [q']
    rfl
  · refine ⟨0, ?_, fun _ => rfl⟩
    have q' : f3_waitForOpening 8 (xg σ 8 G) = some 0 := by
      unfold f3_waitForOpening
      rw [show FU = 999 + 1 from rfl, f3_waitForOpening_b2, if_neg (by decide)]
      simp only [nm_eq, bnd_eq, bns_eq, xg_at, xg_0, mr_at, up_xg, up_mr, ↓reduceIte, e10, e01, e50, e51, e20, e60, e70, e30, e40, Classical.not_not, not_true_eq_false, not_false_eq_true, rmd_96, x_isOpen, Int32.add_zero]
      rw [show G 1 0 - G 1 0 / 96 * 96 = Tk G from rfl, if_neg ho]
    unfold f11_ticksUntilOpen
    rw [q']
    rfl
-- signs
theorem wt_0 (hi : Iv G) {p : Nat} (hp : (p : Int) < (G 4 0).toInt) : 0 ≤ (Wt G p).toInt := by
  have h0 := hi.1
  have h1 := hi.p hp
  have e : (G 24 p + G 0 6).toInt = (G 24 p).toInt + (G 0 6).toInt := tv_add rfl rfl (by omega)
  have e2 : (G 24 p + G 0 6 - G 1 0).toInt = (G 24 p).toInt + (G 0 6).toInt - (G 1 0).toInt := tv_sub e rfl (by omega)
  have ez : (0 : Int32).toInt = 0 := rfl
  unfold Wt
  repeat' split
  all_goals omega
theorem rd_half (hi : Iv G) {p : Nat} (hp : (p : Int) < (G 4 0).toInt) : 0 ≤ (Rd G p).toInt ∧ 2 * (Rd G p).toInt ≤ (G 19 p).toInt := by
  have h0 := hi.1
  have h1 := hi.p hp
  have h2 := cnt_in (G 22 p) (st G p) (k := (G 17 p).toInt.toNat) (by omega)
  have h3 := mul_in (a := (G 19 p).toInt) (A := 6930) (b := (Dl G p).toInt) (B := 14) (by omega) (by unfold Dl; omega)
  have e1 : (G 19 p * Dl G p).toInt = (G 19 p).toInt * (Dl G p).toInt := tv_mul rfl rfl (by omega)
  have e2 : (G 19 p * Dl G p / G 17 p).toInt = (G 19 p).toInt * (Dl G p).toInt / (G 17 p).toInt := tv_div e1 rfl (by omega)
  have h4 : 0 ≤ (G 19 p).toInt * (Dl G p).toInt / (G 17 p).toInt := Int.ediv_nonneg (by omega) (by omega)
  have hm : (G 19 p).toInt * (Dl G p).toInt ≤ (G 19 p).toInt * (G 17 p).toInt := Int.mul_le_mul_of_nonneg_left (by unfold Dl; omega) (by omega)
  have h5 : (G 19 p).toInt * (Dl G p).toInt / (G 17 p).toInt ≤ (G 19 p).toInt := Int.ediv_le_of_le_mul (by omega) hm
  have h6 : (G 19 p).toInt * (Dl G p).toInt / (G 17 p).toInt ≤ 97020 := by omega
  have e3 : (G 19 p * Dl G p / G 17 p / 2).toInt = (G 19 p).toInt * (Dl G p).toInt / (G 17 p).toInt / 2 := tv_div e2 rfl (by omega)
  have ez : (0 : Int32).toInt = 0 := rfl
  unfold Rd
  split <;> omega
end ASK
