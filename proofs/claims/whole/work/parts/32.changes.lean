/-! THE MATHEMATICS, 13: the changes -/
-- the ticks of a day in which the garden is open
def oc (G : Gd) : Nat → Int32
  | 0 => 0
  | k + 1 => if Opn G (Int32.ofNat k) = 0 then oc G k else oc G k + 1
theorem oc_lo (G : Gd) {k : Nat} (h : k ≤ 32) : oc G k = 0 := by
  induction k with
  | zero => rfl
  | succ k ih =>
    rw [oc, if_pos, ih (by omega)]
    unfold Opn
    rw [if_neg (by rw [oN _ (by omega)]; omega)]
theorem oc_hi (G : Gd) {k : Nat} (h : k ≤ 1000) : oc G (68 + k) = oc G 68 := by
  induction k with
  | zero => rfl
  | succ k ih =>
    rw [show 68 + (k + 1) = (68 + k) + 1 from rfl, oc, if_pos, ih (by omega)]
    unfold Opn
    rw [if_neg (by rw [oN _ (by omega)]; omega)]
theorem x_oticks_l {σ : Sig} {n : Nat} {G : Gd} : ∀ (fu k : Nat), k ≤ 68 → 68 < fu + k → f3_openTicksOfDay_b5 n fu (oc G k) (Int32.ofNat k) (xg σ n G) = some (oc G 68) := by
  intro fu
  induction fu with
  | zero => intro k h1 h2; omega
  | succ fu ih =>
    intro k h1 h2
    have ek := oN k (by omega)
    have e67 : (67 : Int32).toInt = 67 := rfl
    rw [f3_openTicksOfDay_b5, x_isOpen]
    by_cases hk : k = 68
    · rw [if_pos (by rw [Int32.lt_iff_toInt_lt, ek, e67]; omega), hk]
    · rw [if_neg (by rw [Int32.lt_iff_toInt_lt, ek, e67]; omega)]
      have q := ih (k + 1) (by omega) (by omega)
      unfold f3_openTicksOfDay_b22
      simp only [nm_ap, bnd_ap, bns_ap, bnx_ap0, bnx_ap1, bnx_ap2, bnx_ap3, bnx_ap4, gz_0, gz_1, dvd_96, dvd_2, dvd_10000, rmd_96, rmd_8, xg_at, xg_0, mr_at, up_xg, up_mr, narz_0, narz_1, i10, i01, i11, i00, ↓reduceIte, e10, e01, e50, e51, e20, e60, e70, e30, e40, Classical.not_not, not_true_eq_false, not_false_eq_true, oN1]
      rw [oc] at q
      by_cases ho : Opn G (Int32.ofNat k) = 0
      · rw [if_pos ho] at q ⊢; exact q
      · rw [if_neg ho] at q ⊢; exact q
theorem x_oticks (σ : Sig) (n : Nat) (G : Gd) : f3_openTicksOfDay n (xg σ n G) = some (oc G 68) := by
  have q := x_oticks_l (σ := σ) (n := n) (G := G) FU 32 (by omega) (by unfold FU; omega)
  rw [oc_lo G (Nat.le_refl 32)] at q
  exact q
theorem m_oticks_l {G : Gd} {w : Rw} (h : RG G w) (τ : Sig) : ∀ (fu k : Nat), k ≤ 96 → 96 < fu + k → f12_openTicks_b4 fu (oc G k) (Int32.ofNat k) (mr τ w) = some (oc G 96) := by
  intro fu
  induction fu with
  | zero => intro k h1 h2; omega
  | succ fu ih =>
    intro k h1 h2
    have ek := oN k (by omega)
    have e96 : (96 : Int32).toInt = 96 := rfl
    rw [f12_openTicks_b4, m_openAt h]
    by_cases hk : k = 96
    · rw [if_pos (by rw [Int32.le_iff_toInt_le, ek, e96]; omega), hk]
    · rw [if_neg (by rw [Int32.le_iff_toInt_le, ek, e96]; omega)]
      have q := ih (k + 1) (by omega) (by omega)
      unfold f12_openTicks_b24
      simp only [nm_ap, bnd_ap, bns_ap, bnx_ap0, bnx_ap1, bnx_ap2, bnx_ap3, bnx_ap4, gz_0, gz_1, dvd_96, dvd_2, dvd_10000, rmd_96, rmd_8, xg_at, xg_0, mr_at, up_xg, up_mr, narz_0, narz_1, i10, i01, i11, i00, ↓reduceIte, e10, e01, e50, e51, e20, e60, e70, e30, e40, Classical.not_not, not_true_eq_false, not_false_eq_true, oN1, Int32.add_zero]
      rw [oc] at q
      by_cases ho : Opn G (Int32.ofNat k) = 0
      · rw [if_pos ho] at q ⊢; exact q
      · rw [if_neg ho] at q ⊢; exact q
theorem m_oticks {G : Gd} {w : Rw} (h : RG G w) (τ : Sig) : f12_openTicks (mr τ w) = some (oc G 68) := by
  have q := m_oticks_l h τ FU 0 (by omega) (by unfold FU; omega)
  rw [oc_hi G (k := 28) (by omega)] at q
  exact q
theorem ok_setRate {σ τ : Sig} {G : Gd} {w : Rw} (a : Int32) (h : Rl (xg σ 8 G) (mr τ w)) : OKx [1] (f11_setRate a (xg σ 8 G)) (f12_setRate a (mr τ w)) := by
  have hg := h.gp
  unfold f11_setRate f12_setRate f12_change
  simp only [nm_ap, up_mr0, x_range, m_outside, Int32.reduceToInt]
  by_cases c1 : 1 ≤ a.toInt ∧ a.toInt ≤ 20
  · obtain ⟨σ1, τ1, q1, q2, e0, hput⟩ := rem_ok (h.thm 0)
    simp only [if_pos c1, nm_ap, bnd_ap, bns_ap, bnx_ap0, bnx_ap1, bnx_ap2, bnx_ap3, bnx_ap4, gz_0, gz_1, dvd_96, dvd_2, dvd_10000, rmd_96, rmd_8, xg_at, xg_0, mr_at, up_xg, up_mr, narz_0, narz_1, i10, i01, i11, i00, ↓reduceIte, e10, e01, e50, e51, e20, e60, e70, e30, e40, Classical.not_not, not_true_eq_false, not_false_eq_true, x_range, m_outside, Int32.reduceToInt, x_state, m_raise0, m_raise1, up_mr0, ite_not, q1, q2, al_0, al_1, al_2, al_3, al_4, al_5, al_6, al_7, al_8, al_9, al_10, al_11, al_12, al_13, al_14, as_0, as_1, as_2, as_3, as_4, as_5, as_6, as_7, as_8, as_9, as_10, as_11, as_12, as_13, as_14, hg.1.s5]
    exact OKx.good (hput _ _ ⟨rg_rate hg.1 a hg.2.bd, iv_rate hg.2 c1⟩) (by rw [th_mr, e0, th_at])
  · simp only [if_neg c1, nm_ap, bnd_ap, bns_ap, bnx_ap0, bnx_ap1, bnx_ap2, bnx_ap3, bnx_ap4, gz_0, gz_1, dvd_96, dvd_2, dvd_10000, rmd_96, rmd_8, xg_at, xg_0, mr_at, up_xg, up_mr, narz_0, narz_1, i10, i01, i11, i00, ↓reduceIte, e10, e01, e50, e51, e20, e60, e70, e30, e40, Classical.not_not, not_true_eq_false, not_false_eq_true, x_range, m_outside, Int32.reduceToInt, x_state, m_raise0, m_raise1, up_mr0, ite_not]
    exact OKx.bad 0 rfl (by decide) rfl (h.thm 0)
theorem ok_setPause {σ τ : Sig} {G : Gd} {w : Rw} (a : Int32) (h : Rl (xg σ 8 G) (mr τ w)) : OKx [1] (f11_setPause a (xg σ 8 G)) (f12_setPause a (mr τ w)) := by
  have hg := h.gp
  unfold f11_setPause f12_setPause f12_change
  simp only [nm_ap, up_mr0, x_range, m_outside, Int32.reduceToInt]
  by_cases c1 : 0 ≤ a.toInt ∧ a.toInt ≤ 8
  · obtain ⟨σ1, τ1, q1, q2, e0, hput⟩ := rem_ok (h.thm 0)
    simp only [if_pos c1, nm_ap, bnd_ap, bns_ap, bnx_ap0, bnx_ap1, bnx_ap2, bnx_ap3, bnx_ap4, gz_0, gz_1, dvd_96, dvd_2, dvd_10000, rmd_96, rmd_8, xg_at, xg_0, mr_at, up_xg, up_mr, narz_0, narz_1, i10, i01, i11, i00, ↓reduceIte, e10, e01, e50, e51, e20, e60, e70, e30, e40, Classical.not_not, not_true_eq_false, not_false_eq_true, x_range, m_outside, Int32.reduceToInt, x_state, m_raise0, m_raise1, up_mr0, ite_not, q1, q2, al_0, al_1, al_2, al_3, al_4, al_5, al_6, al_7, al_8, al_9, al_10, al_11, al_12, al_13, al_14, as_0, as_1, as_2, as_3, as_4, as_5, as_6, as_7, as_8, as_9, as_10, as_11, as_12, as_13, as_14, hg.1.s6]
    exact OKx.good (hput _ _ ⟨rg_pause hg.1 a hg.2.bd, iv_pause hg.2 c1⟩) (by rw [th_mr, e0, th_at])
  · simp only [if_neg c1, nm_ap, bnd_ap, bns_ap, bnx_ap0, bnx_ap1, bnx_ap2, bnx_ap3, bnx_ap4, gz_0, gz_1, dvd_96, dvd_2, dvd_10000, rmd_96, rmd_8, xg_at, xg_0, mr_at, up_xg, up_mr, narz_0, narz_1, i10, i01, i11, i00, ↓reduceIte, e10, e01, e50, e51, e20, e60, e70, e30, e40, Classical.not_not, not_true_eq_false, not_false_eq_true, x_range, m_outside, Int32.reduceToInt, x_state, m_raise0, m_raise1, up_mr0, ite_not]
    exact OKx.bad 0 rfl (by decide) rfl (h.thm 0)
theorem ok_setPrice {σ τ : Sig} {G : Gd} {w : Rw} (a b : Int32) (h : Rl (xg σ 8 G) (mr τ w)) : OKx [2, 1] (f11_setPrice a b (xg σ 8 G)) (f12_setPrice a b (mr τ w)) := by
  have hg := h.gp
  have h0 := hg.2.1
  unfold f11_setPrice f12_setPrice f12_setPrice_b25 f12_change
  simp only [nm_ap, up_mr0, x_scentq, x_range, m_noScent hg, m_outside, Int32.reduceToInt]
  by_cases c1 : 0 ≤ a.toInt ∧ a.toInt < (G 2 0).toInt
  · by_cases c2 : 1 ≤ b.toInt ∧ b.toInt ≤ 99
    · obtain ⟨σ1, τ1, q1, q2, e0, hput⟩ := rem_ok (h.thm 0)
      have a5 : 0 ≤ a.toInt ∧ a.toInt < ((5 : Nat) : Int) := by omega
      have e15 : (15 + a).toInt = 15 + a.toInt := tv_add rfl rfl (by omega)
      have i15 : 0 ≤ (15 + a).toInt ∧ (15 + a).toInt < ((536 : Nat) : Int) := by omega
      have en : (15 + a).toInt.toNat = 15 + a.toInt.toNat := by omega
      have an : ((a.toInt.toNat : Nat) : Int) < (G 2 0).toInt := by omega
      simp only [if_pos c1, if_pos c2, nm_ap, bnd_ap, bns_ap, bnx_ap0, bnx_ap1, bnx_ap2, bnx_ap3, bnx_ap4, gz_0, gz_1, dvd_96, dvd_2, dvd_10000, rmd_96, rmd_8, xg_at, xg_0, mr_at, up_xg, up_mr, narz_0, narz_1, i10, i01, i11, i00, ↓reduceIte, e10, e01, e50, e51, e20, e60, e70, e30, e40, Classical.not_not, not_true_eq_false, not_false_eq_true, x_range, m_outside, Int32.reduceToInt, x_state, m_raise0, m_raise1, up_mr0, ite_not, q1, q2, ald_in a5, ast_in a5, ald_in i15, ast_in i15, en, hg.1.i an]
      exact OKx.good (hput _ _ ⟨rg_price hg.1 an b hg.2.bd, iv_price hg.2 c2⟩) (by rw [th_mr, e0, th_at])
    · simp only [if_pos c1, if_neg c2, nm_ap, bnd_ap, bns_ap, bnx_ap0, bnx_ap1, bnx_ap2, bnx_ap3, bnx_ap4, gz_0, gz_1, dvd_96, dvd_2, dvd_10000, rmd_96, rmd_8, xg_at, xg_0, mr_at, up_xg, up_mr, narz_0, narz_1, i10, i01, i11, i00, ↓reduceIte, e10, e01, e50, e51, e20, e60, e70, e30, e40, Classical.not_not, not_true_eq_false, not_false_eq_true, x_range, m_outside, Int32.reduceToInt, x_state, m_raise0, m_raise1, up_mr0, ite_not]
      exact OKx.bad 1 rfl (by decide) rfl (h.thm 0)
  · simp only [if_neg c1, nm_ap, bnd_ap, bns_ap, bnx_ap0, bnx_ap1, bnx_ap2, bnx_ap3, bnx_ap4, gz_0, gz_1, dvd_96, dvd_2, dvd_10000, rmd_96, rmd_8, xg_at, xg_0, mr_at, up_xg, up_mr, narz_0, narz_1, i10, i01, i11, i00, ↓reduceIte, e10, e01, e50, e51, e20, e60, e70, e30, e40, Classical.not_not, not_true_eq_false, not_false_eq_true, x_range, m_outside, Int32.reduceToInt, x_state, m_raise0, m_raise1, up_mr0, ite_not]
    exact OKx.bad 0 rfl (by decide) rfl (h.thm 0)
theorem ok_layBed {σ τ : Sig} {G : Gd} {w : Rw} (a b c d : Int32) (h : Rl (xg σ 8 G) (mr τ w)) : OKx [2, 1, 3] (f11_layBed a b c d (xg σ 8 G)) (f12_layBed a b c d (mr τ w)) := by
  have hg := h.gp
  have h0 := hg.2.1
  unfold f11_layBed f12_layBed f12_badBed f12_badBed_b36
  simp only [nm_ap, up_mr0, x_scentq, x_range, m_noScent hg, m_outside, Int32.reduceToInt]
  by_cases c1 : 0 ≤ a.toInt ∧ a.toInt < (G 2 0).toInt
  · by_cases c2 : 1 ≤ b.toInt ∧ b.toInt ≤ 20
    · by_cases c3 : 0 ≤ c.toInt ∧ c.toInt ≤ 99
      · by_cases c4 : c.toInt ≤ d.toInt ∧ d.toInt ≤ 99
        · simp only [if_pos c1, if_pos c2, if_pos c3, if_pos c4, nm_ap, bnd_ap, bns_ap, bnx_ap0, bnx_ap1, bnx_ap2, bnx_ap3, bnx_ap4, gz_0, gz_1, dvd_96, dvd_2, dvd_10000, rmd_96, rmd_8, xg_at, xg_0, mr_at, up_xg, up_mr, narz_0, narz_1, i10, i01, i11, i00, ↓reduceIte, e10, e01, e50, e51, e20, e60, e70, e30, e40, Classical.not_not, not_true_eq_false, not_false_eq_true, x_range, m_outside, Int32.reduceToInt, x_state, m_raise0, m_raise1, up_mr0, ite_not, x_room0, al_0, al_1, al_2, al_3, al_4, al_5, al_6, al_7, al_8, al_9, al_10, al_11, al_12, al_13, al_14, hg.1.s1]
          by_cases c5 : (G 3 0).toInt < 8
          · have n5 : ¬ G 3 0 = 8 := fun e => by rw [e] at c5; exact absurd c5 (by decide)
            obtain ⟨σ1, τ1, q1, q2, e0, hput⟩ := rem_ok (h.thm 0)
            unfold f12_layBed_b41
            simp only [if_pos c5, if_neg n5, x_state, m_raise0, nm_ap, bnd_ap, bns_ap, bnx_ap0, bnx_ap1, bnx_ap2, bnx_ap3, bnx_ap4, gz_0, gz_1, dvd_96, dvd_2, dvd_10000, rmd_96, rmd_8, xg_at, xg_0, mr_at, up_xg, up_mr, narz_0, narz_1, i10, i01, i11, i00, ↓reduceIte, e10, e01, e50, e51, e20, e60, e70, e30, e40, Classical.not_not, not_true_eq_false, not_false_eq_true, x_range, m_outside, Int32.reduceToInt, x_state, m_raise0, m_raise1, up_mr0, ite_not, q1, q2]
            rw [x_bed (by omega), m_mkBed (by rw [hg.1.s1]; omega)]
            simp only [nm_ap, bnd_ap, bns_ap, bnx_ap0, bnx_ap1, bnx_ap2, bnx_ap3, bnx_ap4, gz_0, gz_1, dvd_96, dvd_2, dvd_10000, rmd_96, rmd_8, xg_at, xg_0, mr_at, up_xg, up_mr, narz_0, narz_1, i10, i01, i11, i00, ↓reduceIte, e10, e01, e50, e51, e20, e60, e70, e30, e40, Classical.not_not, not_true_eq_false, not_false_eq_true, x_range, m_outside, Int32.reduceToInt, x_state, m_raise0, m_raise1, up_mr0, ite_not, hg.1.s1]
            exact OKx.good (hput _ _ ⟨rg_bed hg.1 (by omega) (by omega) _ _ _ _ hg.2.bd, iv_bed hg.2 (by omega) (by omega) c2⟩) (by rw [th_mr, e0, th_at])
          · have p5 : G 3 0 = 8 := ti_ext (by have e8 : (8 : Int32).toInt = 8 := rfl; omega)
            unfold f12_layBed_b41
            simp only [if_neg c5, if_pos p5, x_state, m_raise1, nm_ap, bnd_ap, bns_ap, bnx_ap0, bnx_ap1, bnx_ap2, bnx_ap3, bnx_ap4, gz_0, gz_1, dvd_96, dvd_2, dvd_10000, rmd_96, rmd_8, xg_at, xg_0, mr_at, up_xg, up_mr, narz_0, narz_1, i10, i01, i11, i00, ↓reduceIte, e10, e01, e50, e51, e20, e60, e70, e30, e40, Classical.not_not, not_true_eq_false, not_false_eq_true, x_range, m_outside, Int32.reduceToInt, x_state, m_raise0, m_raise1, up_mr0, ite_not]
            exact OKx.bad 2 rfl (by decide) rfl (h.thm 0)
        · simp only [if_pos c1, if_pos c2, if_pos c3, if_neg c4, nm_ap, bnd_ap, bns_ap, bnx_ap0, bnx_ap1, bnx_ap2, bnx_ap3, bnx_ap4, gz_0, gz_1, dvd_96, dvd_2, dvd_10000, rmd_96, rmd_8, xg_at, xg_0, mr_at, up_xg, up_mr, narz_0, narz_1, i10, i01, i11, i00, ↓reduceIte, e10, e01, e50, e51, e20, e60, e70, e30, e40, Classical.not_not, not_true_eq_false, not_false_eq_true, x_range, m_outside, Int32.reduceToInt, x_state, m_raise0, m_raise1, up_mr0, ite_not]
          exact OKx.bad 1 rfl (by decide) rfl (h.thm 0)
      · simp only [if_pos c1, if_pos c2, if_neg c3, nm_ap, bnd_ap, bns_ap, bnx_ap0, bnx_ap1, bnx_ap2, bnx_ap3, bnx_ap4, gz_0, gz_1, dvd_96, dvd_2, dvd_10000, rmd_96, rmd_8, xg_at, xg_0, mr_at, up_xg, up_mr, narz_0, narz_1, i10, i01, i11, i00, ↓reduceIte, e10, e01, e50, e51, e20, e60, e70, e30, e40, Classical.not_not, not_true_eq_false, not_false_eq_true, x_range, m_outside, Int32.reduceToInt, x_state, m_raise0, m_raise1, up_mr0, ite_not]
        exact OKx.bad 1 rfl (by decide) rfl (h.thm 0)
    · simp only [if_pos c1, if_neg c2, nm_ap, bnd_ap, bns_ap, bnx_ap0, bnx_ap1, bnx_ap2, bnx_ap3, bnx_ap4, gz_0, gz_1, dvd_96, dvd_2, dvd_10000, rmd_96, rmd_8, xg_at, xg_0, mr_at, up_xg, up_mr, narz_0, narz_1, i10, i01, i11, i00, ↓reduceIte, e10, e01, e50, e51, e20, e60, e70, e30, e40, Classical.not_not, not_true_eq_false, not_false_eq_true, x_range, m_outside, Int32.reduceToInt, x_state, m_raise0, m_raise1, up_mr0, ite_not]
      exact OKx.bad 1 rfl (by decide) rfl (h.thm 0)
  · simp only [if_neg c1, nm_ap, bnd_ap, bns_ap, bnx_ap0, bnx_ap1, bnx_ap2, bnx_ap3, bnx_ap4, gz_0, gz_1, dvd_96, dvd_2, dvd_10000, rmd_96, rmd_8, xg_at, xg_0, mr_at, up_xg, up_mr, narz_0, narz_1, i10, i01, i11, i00, ↓reduceIte, e10, e01, e50, e51, e20, e60, e70, e30, e40, Classical.not_not, not_true_eq_false, not_false_eq_true, x_range, m_outside, Int32.reduceToInt, x_state, m_raise0, m_raise1, up_mr0, ite_not]
    exact OKx.bad 0 rfl (by decide) rfl (h.thm 0)
theorem ok_setPeacocks {σ τ : Sig} {G : Gd} {w : Rw} (a b : Int32) (h : Rl (xg σ 8 G) (mr τ w)) : OKx [1] (f11_setPeacocks a b (xg σ 8 G)) (f12_setPeacocks a b (mr τ w)) := by
  have hg := h.gp
  unfold f11_setPeacocks f12_setPeacocks
  simp only [nm_ap, up_mr0, x_range, m_outside, Int32.reduceToInt]
  by_cases c1 : 0 ≤ a.toInt ∧ a.toInt ≤ 95
  · by_cases c2 : a.toInt ≤ b.toInt ∧ b.toInt ≤ 95
    · obtain ⟨σ1, τ1, q1, q2, e0, hput⟩ := rem_ok (h.thm 0)
      have hr := rg_wlk hg.1 a b hg.2.bd
      simp only [if_pos c1, if_pos c2, nm_ap, bnd_ap, bns_ap, bnx_ap0, bnx_ap1, bnx_ap2, bnx_ap3, bnx_ap4, gz_0, gz_1, dvd_96, dvd_2, dvd_10000, rmd_96, rmd_8, xg_at, xg_0, mr_at, up_xg, up_mr, narz_0, narz_1, i10, i01, i11, i00, ↓reduceIte, e10, e01, e50, e51, e20, e60, e70, e30, e40, Classical.not_not, not_true_eq_false, not_false_eq_true, x_range, m_outside, Int32.reduceToInt, x_state, m_raise0, m_raise1, up_mr0, ite_not, q1, q2, x_walk, x_oticks, as_0, as_1, as_2, as_3, as_4, as_5, as_6, as_7, as_8, as_9, as_10, as_11, as_12, as_13, as_14, m_oticks hr]
      exact OKx.good (hput _ _ ⟨hr, iv_wlk hg.2 a b⟩) (by rw [th_mr, e0, th_at])
    · simp only [if_pos c1, if_neg c2, nm_ap, bnd_ap, bns_ap, bnx_ap0, bnx_ap1, bnx_ap2, bnx_ap3, bnx_ap4, gz_0, gz_1, dvd_96, dvd_2, dvd_10000, rmd_96, rmd_8, xg_at, xg_0, mr_at, up_xg, up_mr, narz_0, narz_1, i10, i01, i11, i00, ↓reduceIte, e10, e01, e50, e51, e20, e60, e70, e30, e40, Classical.not_not, not_true_eq_false, not_false_eq_true, x_range, m_outside, Int32.reduceToInt, x_state, m_raise0, m_raise1, up_mr0, ite_not]
      exact OKx.bad 0 rfl (by decide) rfl (h.thm 0)
  · simp only [if_neg c1, nm_ap, bnd_ap, bns_ap, bnx_ap0, bnx_ap1, bnx_ap2, bnx_ap3, bnx_ap4, gz_0, gz_1, dvd_96, dvd_2, dvd_10000, rmd_96, rmd_8, xg_at, xg_0, mr_at, up_xg, up_mr, narz_0, narz_1, i10, i01, i11, i00, ↓reduceIte, e10, e01, e50, e51, e20, e60, e70, e30, e40, Classical.not_not, not_true_eq_false, not_false_eq_true, x_range, m_outside, Int32.reduceToInt, x_state, m_raise0, m_raise1, up_mr0, ite_not]
    exact OKx.bad 0 rfl (by decide) rfl (h.thm 0)
theorem ok_sell {σ τ : Sig} {G : Gd} {w : Rw} (a b c d : Int32) (h : Rl (xg σ 8 G) (mr τ w)) : OKx [1, 3] (f11_sell a b c d (xg σ 8 G)) (f12_sell a b c d (mr τ w)) := by
  have hg := h.gp
  have h0 := hg.2.1
  have ht := Td_in hg.2
  unfold f11_sell f12_sell f12_badPass f12_badPass_b37
  simp only [nm_ap, up_mr0, x_set, x_range, m_all hg.1, m_outside, Int32.reduceToInt, x_today, bnd_ap]
  by_cases c1 : 1 ≤ a.toInt ∧ a.toInt ≤ (SA G).toInt
  · by_cases c2 : (Td G).toInt ≤ b.toInt ∧ b.toInt ≤ 99
    · by_cases c3 : 1 ≤ c.toInt ∧ c.toInt ≤ 14
      · by_cases c4 : 0 ≤ d.toInt ∧ d.toInt ≤ 1
        · simp only [if_pos c1, if_pos c2, if_pos c3, if_pos c4, nm_ap, bnd_ap, bns_ap, bnx_ap0, bnx_ap1, bnx_ap2, bnx_ap3, bnx_ap4, gz_0, gz_1, dvd_96, dvd_2, dvd_10000, rmd_96, rmd_8, xg_at, xg_0, mr_at, up_xg, up_mr, narz_0, narz_1, i10, i01, i11, i00, ↓reduceIte, e10, e01, e50, e51, e20, e60, e70, e30, e40, Classical.not_not, not_true_eq_false, not_false_eq_true, x_range, m_outside, Int32.reduceToInt, x_state, m_raise0, m_raise1, up_mr0, ite_not, x_today, m_today hg.1, m_outside, Int32.reduceToInt, x_canSell, m_soldOut hg.1 hg.2]
          by_cases c5 : (G 4 0).toInt < 30 ∧ (G 5 0).toInt < 50
          · obtain ⟨σ1, τ1, q1, q2, e0, hput⟩ := rem_ok (h.thm 0)
            simp only [if_pos c5, x_state, m_raise0, nm_ap, bnd_ap, bns_ap, bnx_ap0, bnx_ap1, bnx_ap2, bnx_ap3, bnx_ap4, gz_0, gz_1, dvd_96, dvd_2, dvd_10000, rmd_96, rmd_8, xg_at, xg_0, mr_at, up_xg, up_mr, narz_0, narz_1, i10, i01, i11, i00, ↓reduceIte, e10, e01, e50, e51, e20, e60, e70, e30, e40, Classical.not_not, not_true_eq_false, not_false_eq_true, x_range, m_outside, Int32.reduceToInt, x_state, m_raise0, m_raise1, up_mr0, ite_not, q1, q2]
            rw [x_sell (by omega) (by omega) (by omega), m_sell hg.1 τ1 (by omega) (by omega) (by omega) (by omega)]
            simp only [nm_ap, bnd_ap, bns_ap, bnx_ap0, bnx_ap1, bnx_ap2, bnx_ap3, bnx_ap4, gz_0, gz_1, dvd_96, dvd_2, dvd_10000, rmd_96, rmd_8, xg_at, xg_0, mr_at, up_xg, up_mr, narz_0, narz_1, i10, i01, i11, i00, ↓reduceIte, e10, e01, e50, e51, e20, e60, e70, e30, e40, Classical.not_not, not_true_eq_false, not_false_eq_true, x_range, m_outside, Int32.reduceToInt, x_state, m_raise0, m_raise1, up_mr0, ite_not, x_today, m_today hg.1]
            exact OKx.good (hput _ _ ⟨rg_sel hg.1 (by omega) (by omega) (by omega) (by omega) _ _ _ _ _ hg.2.bd, iv_sel hg.2 (by omega) (by omega) (by omega) (by omega) (by omega) c3 c4 (Pr_in hg.2 c3)⟩) (by rw [th_mr, e0, th_at])
          · simp only [if_neg c5, x_state, m_raise1, nm_ap, bnd_ap, bns_ap, bnx_ap0, bnx_ap1, bnx_ap2, bnx_ap3, bnx_ap4, gz_0, gz_1, dvd_96, dvd_2, dvd_10000, rmd_96, rmd_8, xg_at, xg_0, mr_at, up_xg, up_mr, narz_0, narz_1, i10, i01, i11, i00, ↓reduceIte, e10, e01, e50, e51, e20, e60, e70, e30, e40, Classical.not_not, not_true_eq_false, not_false_eq_true, x_range, m_outside, Int32.reduceToInt, x_state, m_raise0, m_raise1, up_mr0, ite_not, x_today, m_today hg.1]
            exact OKx.bad 1 rfl (by decide) rfl (h.thm 0)
        · simp only [if_pos c1, if_pos c2, if_pos c3, if_neg c4, nm_ap, bnd_ap, bns_ap, bnx_ap0, bnx_ap1, bnx_ap2, bnx_ap3, bnx_ap4, gz_0, gz_1, dvd_96, dvd_2, dvd_10000, rmd_96, rmd_8, xg_at, xg_0, mr_at, up_xg, up_mr, narz_0, narz_1, i10, i01, i11, i00, ↓reduceIte, e10, e01, e50, e51, e20, e60, e70, e30, e40, Classical.not_not, not_true_eq_false, not_false_eq_true, x_range, m_outside, Int32.reduceToInt, x_state, m_raise0, m_raise1, up_mr0, ite_not, x_today, m_today hg.1]
          exact OKx.bad 0 rfl (by decide) rfl (h.thm 0)
      · simp only [if_pos c1, if_pos c2, if_neg c3, nm_ap, bnd_ap, bns_ap, bnx_ap0, bnx_ap1, bnx_ap2, bnx_ap3, bnx_ap4, gz_0, gz_1, dvd_96, dvd_2, dvd_10000, rmd_96, rmd_8, xg_at, xg_0, mr_at, up_xg, up_mr, narz_0, narz_1, i10, i01, i11, i00, ↓reduceIte, e10, e01, e50, e51, e20, e60, e70, e30, e40, Classical.not_not, not_true_eq_false, not_false_eq_true, x_range, m_outside, Int32.reduceToInt, x_state, m_raise0, m_raise1, up_mr0, ite_not, x_today, m_today hg.1]
        exact OKx.bad 0 rfl (by decide) rfl (h.thm 0)
    · by_cases c3 : 1 ≤ c.toInt ∧ c.toInt ≤ 14
      · by_cases c4 : 0 ≤ d.toInt ∧ d.toInt ≤ 1
        · simp only [if_pos c1, if_neg c2, if_pos c3, if_pos c4, nm_ap, bnd_ap, bns_ap, bnx_ap0, bnx_ap1, bnx_ap2, bnx_ap3, bnx_ap4, gz_0, gz_1, dvd_96, dvd_2, dvd_10000, rmd_96, rmd_8, xg_at, xg_0, mr_at, up_xg, up_mr, narz_0, narz_1, i10, i01, i11, i00, ↓reduceIte, e10, e01, e50, e51, e20, e60, e70, e30, e40, Classical.not_not, not_true_eq_false, not_false_eq_true, x_range, m_outside, Int32.reduceToInt, x_state, m_raise0, m_raise1, up_mr0, ite_not, x_today, m_today hg.1]
          exact OKx.bad 0 rfl (by decide) rfl (h.thm 0)
        · simp only [if_pos c1, if_neg c2, if_pos c3, if_neg c4, nm_ap, bnd_ap, bns_ap, bnx_ap0, bnx_ap1, bnx_ap2, bnx_ap3, bnx_ap4, gz_0, gz_1, dvd_96, dvd_2, dvd_10000, rmd_96, rmd_8, xg_at, xg_0, mr_at, up_xg, up_mr, narz_0, narz_1, i10, i01, i11, i00, ↓reduceIte, e10, e01, e50, e51, e20, e60, e70, e30, e40, Classical.not_not, not_true_eq_false, not_false_eq_true, x_range, m_outside, Int32.reduceToInt, x_state, m_raise0, m_raise1, up_mr0, ite_not, x_today, m_today hg.1]
          exact OKx.bad 0 rfl (by decide) rfl (h.thm 0)
      · simp only [if_pos c1, if_neg c2, if_neg c3, nm_ap, bnd_ap, bns_ap, bnx_ap0, bnx_ap1, bnx_ap2, bnx_ap3, bnx_ap4, gz_0, gz_1, dvd_96, dvd_2, dvd_10000, rmd_96, rmd_8, xg_at, xg_0, mr_at, up_xg, up_mr, narz_0, narz_1, i10, i01, i11, i00, ↓reduceIte, e10, e01, e50, e51, e20, e60, e70, e30, e40, Classical.not_not, not_true_eq_false, not_false_eq_true, x_range, m_outside, Int32.reduceToInt, x_state, m_raise0, m_raise1, up_mr0, ite_not, x_today, m_today hg.1]
        exact OKx.bad 0 rfl (by decide) rfl (h.thm 0)
  · simp only [if_neg c1, nm_ap, bnd_ap, bns_ap, bnx_ap0, bnx_ap1, bnx_ap2, bnx_ap3, bnx_ap4, gz_0, gz_1, dvd_96, dvd_2, dvd_10000, rmd_96, rmd_8, xg_at, xg_0, mr_at, up_xg, up_mr, narz_0, narz_1, i10, i01, i11, i00, ↓reduceIte, e10, e01, e50, e51, e20, e60, e70, e30, e40, Classical.not_not, not_true_eq_false, not_false_eq_true, x_range, m_outside, Int32.reduceToInt, x_state, m_raise0, m_raise1, up_mr0, ite_not, x_today, m_today hg.1]
    exact OKx.bad 0 rfl (by decide) rfl (h.thm 0)
