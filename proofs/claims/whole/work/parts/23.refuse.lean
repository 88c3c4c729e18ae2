/-! THE MATHEMATICS, 4: refunds, waiting, refusals, and what may be done -/
theorem Iv.b {G : Gd} (h : Iv G) {b : Nat} (hb : (b : Int) < (G 3 0).toInt) : 1 ≤ (G 9 b).toInt ∧ (G 9 b).toInt ≤ 20 ∧ 0 ≤ (G 14 b).toInt ∧ (G 14 b).toInt ≤ 20 ∧ 0 ≤ (G 13 b).toInt ∧ (G 13 b).toInt ≤ 20 * (G 1 0).toInt + (G 14 b).toInt ∧ 0 ≤ (G 12 b).toInt ∧ (G 12 b).toInt ≤ 50 := h.2.2.1 b hb
theorem Iv.p {G : Gd} (h : Iv G) {p : Nat} (hp : (p : Int) < (G 4 0).toInt) : 0 ≤ (G 16 p).toInt ∧ (G 16 p).toInt ≤ 99 ∧ 1 ≤ (G 17 p).toInt ∧ (G 17 p).toInt ≤ 14 ∧ 0 ≤ (G 18 p).toInt ∧ (G 18 p).toInt ≤ 1 ∧ -1 ≤ (G 20 p).toInt ∧ (G 20 p).toInt < (G 5 0).toInt ∧ 0 ≤ (G 21 p).toInt ∧ (G 21 p).toInt ≤ 1 ∧ 0 ≤ (G 22 p).toInt ∧ (G 22 p).toInt < 16384 ∧ 0 ≤ (G 23 p).toInt ∧ ((G 22 p).toInt = 0 ↔ (G 23 p).toInt = 0) ∧ -1 ≤ (G 24 p).toInt ∧ (G 24 p).toInt ≤ (G 1 0).toInt ∧ -1 ≤ (G 25 p).toInt ∧ (G 25 p).toInt < (G 3 0).toInt ∧ (0 ≤ (G 24 p).toInt → 0 ≤ (G 25 p).toInt) ∧ 0 ≤ (G 19 p).toInt ∧ (G 19 p).toInt ≤ 6930 ∧ 0 ≤ (G 26 p).toInt ∧ (G 26 p).toInt ≤ 2030 ∧ ((G 24 p).toInt = (G 1 0).toInt → (G 26 p).toInt + 40 * (G 12 (G 25 p).toInt.toNat).toInt ≤ 2030) := h.2.2.2.1 p hp
theorem Iv.k {G : Gd} (h : Iv G) {k : Nat} (hk : (k : Int) < (G 5 0).toInt) : 0 ≤ (G 27 k).toInt ∧ (G 27 k).toInt < (G 4 0).toInt ∧ 0 ≤ (G 28 k).toInt ∧ (G 28 k).toInt ≤ 1 := h.2.2.2.2.1 k hk
-- days left
def cnt (u : Int32) (s : Nat) : Nat → Int32
  | 0 => 0
  | k + 1 => if s ≤ k ∧ (u >>> (Int32.ofNat k &&& 31)) &&& 1 = 0 then cnt u s k + 1 else cnt u s k
theorem cnt_0 (u : Int32) {s k : Nat} (h : k ≤ s) : cnt u s k = 0 := by
  induction k with
  | zero => rfl
  | succ k ih => rw [cnt, if_neg (by omega)]; exact ih (by omega)
theorem cnt_in (u : Int32) (s : Nat) {k : Nat} (h : k ≤ 1000) : 0 ≤ (cnt u s k).toInt ∧ (cnt u s k).toInt ≤ k := by
  induction k with
  | zero => simp only [cnt]; decide
  | succ k ih =>
    have h1 := ih (by omega)
    have e1 : (1 : Int32).toInt = 1 := rfl
    rw [cnt]
    split
    · rw [tv_add rfl e1 (by omega)]; omega
    · omega
/-- the first of a pass's days that isn't before today -/
def st (G : Gd) (p : Nat) : Nat := ((Td G).toInt - (G 16 p).toInt).toNat
def Dl (G : Gd) (p : Nat) : Int32 := cnt (G 22 p) (st G p) (G 17 p).toInt.toNat
theorem x_left_l {σ : Sig} {n : Nat} {G : Gd} {p : Int32} {s : Nat} (hp : 0 ≤ p.toInt ∧ p.toInt < 30) (hd : (G 17 p.toInt.toNat).toInt ≤ 14) (hs : s < 200) : ∀ (fu k : Nat), s ≤ k → k < 200 → 0 < fu → (G 17 p.toInt.toNat).toInt.toNat < fu + k → f7_countDaysLeft_b16 n fu p (cnt (G 22 p.toInt.toNat) s k) (Int32.ofNat k) (xg σ n G) = some (cnt (G 22 p.toInt.toNat) s (max k (G 17 p.toInt.toNat).toInt.toNat)) := by
  intro fu
  induction fu with
  | zero =>
    intro k h1 h2 h3 h4
    omega
  | succ fu ih =>
    intro k h1 h2 h3 h4
    have ek := oN k (by omega)
    rw [f7_countDaysLeft_b16]
    simp only [nm_ap, bnd_ap, bns_ap, bnx_ap0, bnx_ap1, bnx_ap2, bnx_ap3, bnx_ap4, gz_0, gz_1, dvd_96, dvd_2, dvd_10000, rmd_96, rmd_8, xg_at, xg_0, mr_at, up_xg, up_mr, narz_0, narz_1, i10, i01, i11, i00, ↓reduceIte, e10, e01, e50, e51, e20, e60, e70, e30, e40, Classical.not_not, not_true_eq_false, not_false_eq_true, ald_in (show 0 ≤ p.toInt ∧ p.toInt < ((30 : Nat) : Int) from hp)]
    by_cases hk : (G 17 p.toInt.toNat).toInt ≤ k
    · rw [if_pos (by rw [Int32.le_iff_toInt_le, ek]; exact hk), show max k (G 17 p.toInt.toNat).toInt.toNat = k by omega]
    · rw [if_neg (by rw [Int32.le_iff_toInt_le, ek]; exact hk)]
      have q := ih (k + 1) (by omega) (by omega) (by omega) (by omega)
      rw [show max (k + 1) (G 17 p.toInt.toNat).toInt.toNat = max k (G 17 p.toInt.toNat).toInt.toNat by omega] at q
      unfold f7_countDaysLeft_b44
      simp only [nm_ap, bnd_ap, bns_ap, bnx_ap0, bnx_ap1, bnx_ap2, bnx_ap3, bnx_ap4, gz_0, gz_1, dvd_96, dvd_2, dvd_10000, rmd_96, rmd_8, xg_at, xg_0, mr_at, up_xg, up_mr, narz_0, narz_1, i10, i01, i11, i00, ↓reduceIte, e10, e01, e50, e51, e20, e60, e70, e30, e40, Classical.not_not, not_true_eq_false, not_false_eq_true, oN1]
      rw [cnt] at q
      split
      · rename_i hb
        rw [if_pos ⟨h1, hb⟩] at q
        exact q
      · rename_i hb
        rw [if_neg (fun z => hb z.2)] at q
        exact q
theorem x_left {σ : Sig} {n : Nat} {G : Gd} (hi : Iv G) {p : Int32} (hp : 0 ≤ p.toInt ∧ p.toInt < (G 4 0).toInt) : f7_countDaysLeft n p (Td G) (xg σ n G) = some (Dl G p.toInt.toNat) := by
  have h0 := hi.1
  have h1 := hi.p (p := p.toInt.toNat) (by omega)
  have ht := Td_in hi
  have hp3 : 0 ≤ p.toInt ∧ p.toInt < 30 := by omega
  have es : (Td G - G 16 p.toInt.toNat).toInt = (Td G).toInt - (G 16 p.toInt.toNat).toInt := tv_sub rfl rfl (by omega)
  unfold f7_countDaysLeft
  simp only [nm_ap, bnd_ap, bns_ap, bnx_ap0, bnx_ap1, bnx_ap2, bnx_ap3, bnx_ap4, gz_0, gz_1, dvd_96, dvd_2, dvd_10000, rmd_96, rmd_8, xg_at, xg_0, mr_at, up_xg, up_mr, narz_0, narz_1, i10, i01, i11, i00, ↓reduceIte, e10, e01, e50, e51, e20, e60, e70, e30, e40, Classical.not_not, not_true_eq_false, not_false_eq_true, ald_in (show 0 ≤ p.toInt ∧ p.toInt < ((30 : Nat) : Int) from hp3)]
  have eq : (if (0 : Int32) < Td G - G 16 p.toInt.toNat then Td G - G 16 p.toInt.toNat else 0) = Int32.ofNat (st G p.toInt.toNat) := by
    apply ti_ext
    rw [oN _ (by unfold st; omega)]
    unfold st
    simp only [Int32.lt_iff_toInt_lt, Int32.le_iff_toInt_le, ← Int32.toInt_inj, Int32.reduceToInt, Int.reduceEq, Int.reduceLT, Int.reduceLE, Int.reduceNeg, ↓reduceIte, not_true_eq_false, not_false_eq_true]
    split <;> (try simp only [Int32.reduceToInt]) <;> omega
  rw [eq]
  have q := x_left_l (σ := σ) (n := n) (s := st G p.toInt.toNat) hp3 h1.2.2.2.1 (by unfold st; omega) FU (st G p.toInt.toNat) (Nat.le_refl _) (by unfold st; omega) (by decide) (by unfold FU; omega)
  rw [cnt_0 _ (Nat.le_refl _)] at q
  rw [q]
  unfold Dl
  by_cases hc : st G p.toInt.toNat ≤ (G 17 p.toInt.toNat).toInt.toNat
  · rw [show max (st G p.toInt.toNat) (G 17 p.toInt.toNat).toInt.toNat = (G 17 p.toInt.toNat).toInt.toNat by omega]
  · rw [show max (st G p.toInt.toNat) (G 17 p.toInt.toNat).toInt.toNat = st G p.toInt.toNat by omega, cnt_0 _ (Nat.le_refl _), cnt_0 _ (by omega)]
/-- the refund of a pass -/
def Rd (G : Gd) (p : Nat) : Int32 := if (G 21 p).toInt = 0 then G 19 p * Dl G p / G 17 p / 2 else 0
theorem x_refund {σ : Sig} {n : Nat} {G : Gd} (hi : Iv G) {p : Int32} (hp : 0 ≤ p.toInt ∧ p.toInt < (G 4 0).toInt) : f4_refundNow n p (xg σ n G) = some (Rd G p.toInt.toNat) := by
  have h0 := hi.1
  have h1 := hi.p (p := p.toInt.toNat) (by omega)
  have hp3 : 0 ≤ p.toInt ∧ p.toInt < 30 := by omega
  have hd : ¬ G 17 p.toInt.toNat = 0 := fun z => by rw [z] at h1; have := h1.2.2.1; exact absurd this (by decide)
  unfold f4_refundNow Rd
  simp only [nm_ap, bnd_ap, bns_ap, bnx_ap0, bnx_ap1, bnx_ap2, bnx_ap3, bnx_ap4, gz_0, gz_1, dvd_96, dvd_2, dvd_10000, rmd_96, rmd_8, xg_at, xg_0, mr_at, up_xg, up_mr, narz_0, narz_1, i10, i01, i11, i00, ↓reduceIte, e10, e01, e50, e51, e20, e60, e70, e30, e40, Classical.not_not, not_true_eq_false, not_false_eq_true, ald_in (show 0 ≤ p.toInt ∧ p.toInt < ((30 : Nat) : Int) from hp3), x_today, x_left hi hp, dvd_ok hd, hd, if_false]
  simp only [← Int32.toInt_inj, Int32.reduceToInt]
  split <;> rfl
theorem Rd_in {G : Gd} (hi : Iv G) {p : Nat} (hp : (p : Int) < (G 4 0).toInt) : 0 ≤ (Rd G p).toInt ∧ (Rd G p).toInt ≤ 97020 := by
  have h0 := hi.1
  have h1 := hi.p hp
  have h2 := cnt_in (G 22 p) (st G p) (k := (G 17 p).toInt.toNat) (by omega)
  have h3 := mul_in (a := (G 19 p).toInt) (A := 6930) (b := (Dl G p).toInt) (B := 14) (by omega) (by unfold Dl; omega)
  have e1 : (G 19 p * Dl G p).toInt = (G 19 p).toInt * (Dl G p).toInt := tv_mul rfl rfl (by omega)
  have e2 : (G 19 p * Dl G p / G 17 p).toInt = (G 19 p).toInt * (Dl G p).toInt / (G 17 p).toInt := tv_div e1 rfl (by omega)
  have h4 : 0 ≤ (G 19 p).toInt * (Dl G p).toInt / (G 17 p).toInt := Int.ediv_nonneg (by omega) (by omega)
  have h5 : (G 19 p).toInt * (Dl G p).toInt / (G 17 p).toInt ≤ (G 19 p).toInt * (Dl G p).toInt := Int.ediv_le_self _ (by omega)
  have e3 : (G 19 p * Dl G p / G 17 p / 2).toInt = (G 19 p).toInt * (Dl G p).toInt / (G 17 p).toInt / 2 := tv_div e2 rfl (by omega)
  unfold Rd
  split
  · omega
  · decide
theorem m_refund_l {G : Gd} {w : Rw} (h : RG G w) (hi : Iv G) (τ : Sig) {p : Int32} (hp : 0 ≤ p.toInt ∧ p.toInt < (G 4 0).toInt) : ∀ (fu k : Nat), k ≤ (G 17 p.toInt.toNat).toInt.toNat → (G 17 p.toInt.toNat).toInt.toNat < fu + k → f12_refund_b17 fu p (cnt (G 22 p.toInt.toNat) (st G p.toInt.toNat) k) (Int32.ofNat k) (mr τ w) = some (G 19 p.toInt.toNat * Dl G p.toInt.toNat / G 17 p.toInt.toNat / 2) := by
  have h0 := hi.1
  have h1 := hi.p (p := p.toInt.toNat) (by omega)
  have ht := Td_in hi
  have hp3 : 0 ≤ p.toInt ∧ p.toInt < 30 := by omega
  have hn : ((p.toInt.toNat : Nat) : Int) < (G 4 0).toInt := by omega
  have hd : ¬ G 17 p.toInt.toNat = 0 := fun z => by rw [z] at h1; have := h1.2.2.1; exact absurd this (by decide)
  intro fu
  induction fu with
  | zero => intro k h1 h2; omega
  | succ fu ih =>
    intro k h2 h3
    have ek := oN k (by omega)
    rw [f12_refund_b17]
    simp only [nm_ap, bnd_ap, bns_ap, bnx_ap0, bnx_ap1, bnx_ap2, bnx_ap3, bnx_ap4, gz_0, gz_1, dvd_96, dvd_2, dvd_10000, rmd_96, rmd_8, xg_at, xg_0, mr_at, up_xg, up_mr, narz_0, narz_1, i10, i01, i11, i00, ↓reduceIte, e10, e01, e50, e51, e20, e60, e70, e30, e40, Classical.not_not, not_true_eq_false, not_false_eq_true, mo_2 hp3, h.p2 hn]
    by_cases hk : k = (G 17 p.toInt.toNat).toInt.toNat
    · rw [if_pos (by rw [Int32.le_iff_toInt_le, ek]; omega)]
      simp only [nm_ap, bnd_ap, bns_ap, bnx_ap0, bnx_ap1, bnx_ap2, bnx_ap3, bnx_ap4, gz_0, gz_1, dvd_96, dvd_2, dvd_10000, rmd_96, rmd_8, xg_at, xg_0, mr_at, up_xg, up_mr, narz_0, narz_1, i10, i01, i11, i00, ↓reduceIte, e10, e01, e50, e51, e20, e60, e70, e30, e40, Classical.not_not, not_true_eq_false, not_false_eq_true, mo_4 hp3, h.p4 hn, dvd_ok hd]
      subst hk
      rfl
    · rw [if_neg (by rw [Int32.le_iff_toInt_le, ek]; omega)]
      have q := ih (k + 1) (by omega) (by omega)
      have e4 : (G 16 p.toInt.toNat + Int32.ofNat k).toInt = (G 16 p.toInt.toNat).toInt + k := tv_add rfl ek (by omega)
      unfold f12_refund_b46 f12_refund_b74 f12_refund_b73
      simp only [nm_ap, bnd_ap, bns_ap, bnx_ap0, bnx_ap1, bnx_ap2, bnx_ap3, bnx_ap4, gz_0, gz_1, dvd_96, dvd_2, dvd_10000, rmd_96, rmd_8, xg_at, xg_0, mr_at, up_xg, up_mr, narz_0, narz_1, i10, i01, i11, i00, ↓reduceIte, e10, e01, e50, e51, e20, e60, e70, e30, e40, Classical.not_not, not_true_eq_false, not_false_eq_true, mo_7 hp3, h.p7 hn, mo_1 hp3, h.p1 hn, m_today h, oN1]
      rw [cnt] at q
      by_cases hb : (G 22 p.toInt.toNat >>> (Int32.ofNat k &&& 31)) &&& 1 = 0
      · rw [if_pos hb]
        by_cases hs : st G p.toInt.toNat ≤ k
        · rw [if_pos ⟨hs, hb⟩] at q
          rw [if_neg (by rw [Int32.lt_iff_toInt_lt, e4]; unfold st at hs; omega)]
          exact q
        · rw [if_neg (fun z => hs z.1)] at q
          rw [if_pos (by rw [Int32.lt_iff_toInt_lt, e4]; unfold st at hs; omega)]
          unfold f12_refund_b74
          simp only [nm_ap, bnd_ap, bns_ap, bnx_ap0, bnx_ap1, bnx_ap2, bnx_ap3, bnx_ap4, gz_0, gz_1, dvd_96, dvd_2, dvd_10000, rmd_96, rmd_8, xg_at, xg_0, mr_at, up_xg, up_mr, narz_0, narz_1, i10, i01, i11, i00, ↓reduceIte, e10, e01, e50, e51, e20, e60, e70, e30, e40, Classical.not_not, not_true_eq_false, not_false_eq_true, Int32.add_zero, oN1]
          exact q
      · rw [if_neg hb]
        rw [if_neg (fun z => hb z.2)] at q
        unfold f12_refund_b74
        simp only [nm_ap, bnd_ap, bns_ap, bnx_ap0, bnx_ap1, bnx_ap2, bnx_ap3, bnx_ap4, gz_0, gz_1, dvd_96, dvd_2, dvd_10000, rmd_96, rmd_8, xg_at, xg_0, mr_at, up_xg, up_mr, narz_0, narz_1, i10, i01, i11, i00, ↓reduceIte, e10, e01, e50, e51, e20, e60, e70, e30, e40, Classical.not_not, not_true_eq_false, not_false_eq_true, Int32.add_zero, oN1]
        exact q
theorem m_refund {G : Gd} {w : Rw} (h : RG G w) (hi : Iv G) (τ : Sig) {p : Int32} (hp : 0 ≤ p.toInt ∧ p.toInt < (G 4 0).toInt) : f12_refund p (mr τ w) = some (Rd G p.toInt.toNat) := by
  have h0 := hi.1
  have h1 := hi.p (p := p.toInt.toNat) (by omega)
  have hp3 : 0 ≤ p.toInt ∧ p.toInt < 30 := by omega
  have hn : ((p.toInt.toNat : Nat) : Int) < (G 4 0).toInt := by omega
  unfold f12_refund Rd
  simp only [nm_ap, bnd_ap, bns_ap, bnx_ap0, bnx_ap1, bnx_ap2, bnx_ap3, bnx_ap4, gz_0, gz_1, dvd_96, dvd_2, dvd_10000, rmd_96, rmd_8, xg_at, xg_0, mr_at, up_xg, up_mr, narz_0, narz_1, i10, i01, i11, i00, ↓reduceIte, e10, e01, e50, e51, e20, e60, e70, e30, e40, Classical.not_not, not_true_eq_false, not_false_eq_true, mo_6 hp3, h.p6 hn, ← Int32.toInt_inj, Int32.reduceToInt]
  have q := m_refund_l h hi τ hp FU 0 (by omega) (by unfold FU; omega)
  by_cases hr : (G 21 p.toInt.toNat).toInt = 0
  · rw [if_neg (by omega), if_pos hr]; exact q
  · rw [if_pos (by omega), if_neg hr]
-- waiting
def Wt (G : Gd) (p : Nat) : Int32 := if (G 24 p).toInt = -1 then 0 else if (G 1 0).toInt ≤ (G 24 p).toInt + (G 0 6).toInt then G 24 p + G 0 6 - G 1 0 else 0
theorem x_wait {σ : Sig} {n : Nat} {G : Gd} (hi : Iv G) {p : Int32} (hp : 0 ≤ p.toInt ∧ p.toInt < (G 4 0).toInt) : f4_waitForNextVisit n p (xg σ n G) = some (Wt G p.toInt.toNat) := by
  have h0 := hi.1
  have h1 := hi.p (p := p.toInt.toNat) (by omega)
  have hp3 : 0 ≤ p.toInt ∧ p.toInt < 30 := by omega
  have e : (G 24 p.toInt.toNat + G 0 6).toInt = (G 24 p.toInt.toNat).toInt + (G 0 6).toInt := tv_add rfl rfl (by omega)
  unfold f4_waitForNextVisit Wt
  simp only [nm_ap, bnd_ap, bns_ap, bnx_ap0, bnx_ap1, bnx_ap2, bnx_ap3, bnx_ap4, gz_0, gz_1, dvd_96, dvd_2, dvd_10000, rmd_96, rmd_8, xg_at, xg_0, mr_at, up_xg, up_mr, narz_0, narz_1, i10, i01, i11, i00, ↓reduceIte, e10, e01, e50, e51, e20, e60, e70, e30, e40, Classical.not_not, not_true_eq_false, not_false_eq_true, ald_in (show 0 ≤ p.toInt ∧ p.toInt < ((30 : Nat) : Int) from hp3), Int32.lt_iff_toInt_lt, Int32.le_iff_toInt_le, ← Int32.toInt_inj, Int32.reduceToInt, Int.reduceEq, Int.reduceLT, Int.reduceLE, Int.reduceNeg, ↓reduceIte, not_true_eq_false, not_false_eq_true, e]
  repeat' split
  all_goals first | rfl | (exfalso; omega)
theorem Wt_in {G : Gd} (hi : Iv G) {p : Nat} (hp : (p : Int) < (G 4 0).toInt) : (0 < (Wt G p).toInt ↔ ¬ (G 24 p).toInt = -1 ∧ (G 1 0).toInt < (G 24 p).toInt + (G 0 6).toInt) := by
  have h0 := hi.1
  have h1 := hi.p hp
  have e : (G 24 p + G 0 6).toInt = (G 24 p).toInt + (G 0 6).toInt := tv_add rfl rfl (by omega)
  have e2 : (G 24 p + G 0 6 - G 1 0).toInt = (G 24 p).toInt + (G 0 6).toInt - (G 1 0).toInt := tv_sub e rfl (by omega)
  have ez : (0 : Int32).toInt = 0 := rfl
  unfold Wt
  repeat' split
  all_goals omega
-- refusals
def Rf (G : Gd) (k b : Nat) : Int32 :=
  if Opn G (Tk G) = 0 then 1 else if ¬ (G 28 k).toInt = 0 then 2
  else if ¬ ((G 16 (G 27 k).toInt.toNat).toInt ≤ (Td G).toInt ∧ (Td G).toInt < (G 16 (G 27 k).toInt.toNat).toInt + (G 17 (G 27 k).toInt.toNat).toInt) then 3
  else if (G 15 (G 27 k).toInt.toNat >>> (G 8 b &&& 31)) &&& 1 = 0 then 4
  else if 30 < (G 26 (G 27 k).toInt.toNat).toInt then 5
  else if ¬ (G 24 (G 27 k).toInt.toNat).toInt = -1 ∧ (G 1 0).toInt < (G 24 (G 27 k).toInt.toNat).toInt + (G 0 6).toInt then 6
  else if (G 9 b).toInt ≤ (G 14 b).toInt then 7 else 0
theorem x_valid {σ : Sig} {n : Nat} {G : Gd} (hi : Iv G) {p d : Int32} (hp : 0 ≤ p.toInt ∧ p.toInt < (G 4 0).toInt) : f7_isValidOn n p d (xg σ n G) = some (if (G 16 p.toInt.toNat).toInt ≤ d.toInt ∧ d.toInt < (G 16 p.toInt.toNat).toInt + (G 17 p.toInt.toNat).toInt then 1 else 0) := by
  have h0 := hi.1
  have h1 := hi.p (p := p.toInt.toNat) (by omega)
  have hp3 : 0 ≤ p.toInt ∧ p.toInt < 30 := by omega
  have e : (G 16 p.toInt.toNat + G 17 p.toInt.toNat).toInt = (G 16 p.toInt.toNat).toInt + (G 17 p.toInt.toNat).toInt := tv_add rfl rfl (by omega)
  unfold f7_isValidOn
  simp only [nm_ap, bnd_ap, bns_ap, bnx_ap0, bnx_ap1, bnx_ap2, bnx_ap3, bnx_ap4, gz_0, gz_1, dvd_96, dvd_2, dvd_10000, rmd_96, rmd_8, xg_at, xg_0, mr_at, up_xg, up_mr, narz_0, narz_1, i10, i01, i11, i00, ↓reduceIte, e10, e01, e50, e51, e20, e60, e70, e30, e40, Classical.not_not, not_true_eq_false, not_false_eq_true, ald_in (show 0 ≤ p.toInt ∧ p.toInt < ((30 : Nat) : Int) from hp3), Int32.lt_iff_toInt_lt, Int32.le_iff_toInt_le, ← Int32.toInt_inj, Int32.reduceToInt, Int.reduceEq, Int.reduceLT, Int.reduceLE, Int.reduceNeg, ↓reduceIte, not_true_eq_false, not_false_eq_true, e]
  repeat' split
  all_goals first | rfl | (exfalso; omega)
theorem x_hasScent {σ : Sig} {n : Nat} {G : Gd} {p sc : Int32} (hp : 0 ≤ p.toInt ∧ p.toInt < 30) : f7_hasScent n p sc (xg σ n G) = some (if (G 15 p.toInt.toNat >>> (sc &&& 31)) &&& 1 = 0 then 0 else 1) := by
  unfold f7_hasScent
  simp only [nm_ap, bnd_ap, bns_ap, bnx_ap0, bnx_ap1, bnx_ap2, bnx_ap3, bnx_ap4, gz_0, gz_1, dvd_96, dvd_2, dvd_10000, rmd_96, rmd_8, xg_at, xg_0, mr_at, up_xg, up_mr, narz_0, narz_1, i10, i01, i11, i00, ↓reduceIte, e10, e01, e50, e51, e20, e60, e70, e30, e40, Classical.not_not, not_true_eq_false, not_false_eq_true, ald_in (show 0 ≤ p.toInt ∧ p.toInt < ((30 : Nat) : Int) from hp)]
  rcases and1 (G 15 p.toInt.toNat >>> (sc &&& 31)) with h | h <;> rw [h] <;> rfl
theorem x_free {σ : Sig} {n : Nat} {G : Gd} {b : Int32} (hb : 0 ≤ b.toInt ∧ b.toInt < 8) : f0_freePlaces n b (xg σ n G) = some (G 9 b.toInt.toNat - G 14 b.toInt.toNat) := by
  unfold f0_freePlaces
  simp only [nm_ap, bnd_ap, bns_ap, bnx_ap0, bnx_ap1, bnx_ap2, bnx_ap3, bnx_ap4, gz_0, gz_1, dvd_96, dvd_2, dvd_10000, rmd_96, rmd_8, xg_at, xg_0, mr_at, up_xg, up_mr, narz_0, narz_1, i10, i01, i11, i00, ↓reduceIte, e10, e01, e50, e51, e20, e60, e70, e30, e40, Classical.not_not, not_true_eq_false, not_false_eq_true, ald_in (show 0 ≤ b.toInt ∧ b.toInt < ((8 : Nat) : Int) from hb)]
theorem x_refusal {σ : Sig} {n : Nat} {G : Gd} (hi : Iv G) {k b : Int32} (hk : 0 ≤ k.toInt ∧ k.toInt < (G 5 0).toInt) (hb : 0 ≤ b.toInt ∧ b.toInt < (G 3 0).toInt) : f4_reasonOfRefusal n k b (xg σ n G) = some (Rf G k.toInt.toNat b.toInt.toNat) := by
  have h0 := hi.1
  have hk5 : 0 ≤ k.toInt ∧ k.toInt < 50 := by omega
  have hb8 : 0 ≤ b.toInt ∧ b.toInt < 8 := by omega
  have h1 := hi.k (k := k.toInt.toNat) (by omega)
  have hp : 0 ≤ (G 27 k.toInt.toNat).toInt ∧ (G 27 k.toInt.toNat).toInt < (G 4 0).toInt := by omega
  have hp3 : 0 ≤ (G 27 k.toInt.toNat).toInt ∧ (G 27 k.toInt.toNat).toInt < 30 := by omega
  have h2 := hi.p (p := (G 27 k.toInt.toNat).toInt.toNat) (by omega)
  have h3 := hi.b (b := b.toInt.toNat) (by omega)
  have hw := Wt_in hi (p := (G 27 k.toInt.toNat).toInt.toNat) (by omega)
  have e9 : (G 9 b.toInt.toNat - G 14 b.toInt.toNat).toInt = (G 9 b.toInt.toNat).toInt - (G 14 b.toInt.toNat).toInt := tv_sub rfl rfl (by omega)
  unfold f4_reasonOfRefusal Rf
  simp only [nm_ap, bnd_ap, bns_ap, bnx_ap0, bnx_ap1, bnx_ap2, bnx_ap3, bnx_ap4, gz_0, gz_1, dvd_96, dvd_2, dvd_10000, rmd_96, rmd_8, xg_at, xg_0, mr_at, up_xg, up_mr, narz_0, narz_1, i10, i01, i11, i00, ↓reduceIte, e10, e01, e50, e51, e20, e60, e70, e30, e40, Classical.not_not, not_true_eq_false, not_false_eq_true, ald_in (show 0 ≤ k.toInt ∧ k.toInt < ((50 : Nat) : Int) from hk5), ald_in (show 0 ≤ b.toInt ∧ b.toInt < ((8 : Nat) : Int) from hb8), ald_in (show 0 ≤ (G 27 k.toInt.toNat).toInt ∧ (G 27 k.toInt.toNat).toInt < ((30 : Nat) : Int) from hp3), x_tick, x_isOpen, x_today, x_valid hi hp, x_hasScent hp3, x_wait hi hp, x_free hb8]
  generalize (G 15 (G 27 k.toInt.toNat).toInt.toNat >>> (G 8 b.toInt.toNat &&& 31)) &&& 1 = bit
  generalize Opn G (Tk G) = o
  by_cases ho : o = 0
  · simp only [ho, reduceIte]
  simp only [ho, reduceIte]
  by_cases hbit : bit = 0
  · simp only [hbit, reduceIte, Int32.lt_iff_toInt_lt, Int32.le_iff_toInt_le, ← Int32.toInt_inj, Int32.reduceToInt, Int.reduceEq, Int.reduceLT, Int.reduceLE, Int.reduceNeg, ↓reduceIte, not_true_eq_false, not_false_eq_true, e9]
    repeat' split
    all_goals first | rfl | (exfalso; omega)
  · simp only [hbit, reduceIte, Int32.lt_iff_toInt_lt, Int32.le_iff_toInt_le, ← Int32.toInt_inj, Int32.reduceToInt, Int.reduceEq, Int.reduceLT, Int.reduceLE, Int.reduceNeg, ↓reduceIte, not_true_eq_false, not_false_eq_true, e9]
    repeat' split
    all_goals first | rfl | (exfalso; omega)
theorem m_refusal {G : Gd} {w : Rw} (h : RG G w) (hi : Iv G) (τ : Sig) {k b : Int32} (hk : 0 ≤ k.toInt ∧ k.toInt < (G 5 0).toInt) (hb : 0 ≤ b.toInt ∧ b.toInt < (G 3 0).toInt) : f12_refusal k b (mr τ w) = some (Rf G k.toInt.toNat b.toInt.toNat) := by
  have h0 := hi.1
  have hk5 : 0 ≤ k.toInt ∧ k.toInt < 50 := by omega
  have hb8 : 0 ≤ b.toInt ∧ b.toInt < 8 := by omega
  have hkn : ((k.toInt.toNat : Nat) : Int) < (G 5 0).toInt := by omega
  have hbn : ((b.toInt.toNat : Nat) : Int) < (G 3 0).toInt := by omega
  have h1 := hi.k (k := k.toInt.toNat) (by omega)
  have hp : 0 ≤ (G 27 k.toInt.toNat).toInt ∧ (G 27 k.toInt.toNat).toInt < (G 4 0).toInt := by omega
  have hp3 : 0 ≤ (G 27 k.toInt.toNat).toInt ∧ (G 27 k.toInt.toNat).toInt < 30 := by omega
  have hpn : (((G 27 k.toInt.toNat).toInt.toNat : Nat) : Int) < (G 4 0).toInt := by omega
  have h2 := hi.p (p := (G 27 k.toInt.toNat).toInt.toNat) (by omega)
  have h3 := hi.b (b := b.toInt.toNat) (by omega)
  have ht := Td_in hi
  have e1 : (G 16 (G 27 k.toInt.toNat).toInt.toNat + G 17 (G 27 k.toInt.toNat).toInt.toNat).toInt = (G 16 (G 27 k.toInt.toNat).toInt.toNat).toInt + (G 17 (G 27 k.toInt.toNat).toInt.toNat).toInt := tv_add rfl rfl (by omega)
  have e2 : (G 16 (G 27 k.toInt.toNat).toInt.toNat + G 17 (G 27 k.toInt.toNat).toInt.toNat - 1).toInt = (G 16 (G 27 k.toInt.toNat).toInt.toNat).toInt + (G 17 (G 27 k.toInt.toNat).toInt.toNat).toInt - 1 := tv_sub e1 rfl (by omega)
  have e3 : (G 1 0 - G 24 (G 27 k.toInt.toNat).toInt.toNat).toInt = (G 1 0).toInt - (G 24 (G 27 k.toInt.toNat).toInt.toNat).toInt := tv_sub rfl rfl (by omega)
  unfold f12_refusal f12_lastOf f12_refusal_b133 Rf
  simp only [nm_ap, bnd_ap, bns_ap, bnx_ap0, bnx_ap1, bnx_ap2, bnx_ap3, bnx_ap4, gz_0, gz_1, dvd_96, dvd_2, dvd_10000, rmd_96, rmd_8, xg_at, xg_0, mr_at, up_xg, up_mr, narz_0, narz_1, i10, i01, i11, i00, ↓reduceIte, e10, e01, e50, e51, e20, e60, e70, e30, e40, Classical.not_not, not_true_eq_false, not_false_eq_true, al_0, al_1, al_2, al_3, al_4, al_5, al_6, al_7, al_8, al_9, al_10, al_11, al_12, al_13, al_14, m_passOfCard hk5, h.k0 hkn, h.s4, m_openAt h, m_blocked hk5, h.k1 hkn, m_today h, mo_1 hp3, h.p1 hpn, mo_2 hp3, h.p2 hpn, mo_0 hp3, h.p0 hpn, mb_0 hb8, h.b0 hbn, mo_11 hp3, h.p11 hpn, mo_9 hp3, h.p9 hpn, h.s6, mb_5 hb8, h.b5 hbn, mb_1 hb8, h.b1 hbn]
  rw [show G 1 0 - G 1 0 / 96 * 96 = Tk G from rfl]
  generalize (G 15 (G 27 k.toInt.toNat).toInt.toNat >>> (G 8 b.toInt.toNat &&& 31)) &&& 1 = bit
  generalize Opn G (Tk G) = o
  by_cases ho : o = 0
  · simp only [ho, reduceIte]
  simp only [ho, reduceIte]
  by_cases hbit : bit = 0
  · simp only [hbit, reduceIte, Int32.lt_iff_toInt_lt, Int32.le_iff_toInt_le, ← Int32.toInt_inj, Int32.reduceToInt, Int.reduceEq, Int.reduceLT, Int.reduceLE, Int.reduceNeg, ↓reduceIte, not_true_eq_false, not_false_eq_true, e2, e3]
    repeat' split
    all_goals first | rfl | (exfalso; omega)
  · simp only [hbit, reduceIte, Int32.lt_iff_toInt_lt, Int32.le_iff_toInt_le, ← Int32.toInt_inj, Int32.reduceToInt, Int.reduceEq, Int.reduceLT, Int.reduceLE, Int.reduceNeg, ↓reduceIte, not_true_eq_false, not_false_eq_true, e2, e3]
    repeat' split
    all_goals first | rfl | (exfalso; omega)
