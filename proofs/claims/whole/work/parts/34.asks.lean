/-! THE MATHEMATICS, 15: what only asks -/
theorem ok_scentOf {σ τ : Sig} {G : Gd} {w : Rw} (a : Int32) (h : Rl (xg σ 8 G) (mr τ w)) : OKx [2] (f11_scentOf a (xg σ 8 G)) (f12_scentOf a (mr τ w)) := by
  have hg := h.gp
  have h0 := hg.2.1
  unfold f11_scentOf f12_scentOf f12_bedField
  simp only [nm_ap, up_mr0, x_bedq, m_noBed hg]
  by_cases c1 : 0 ≤ a.toInt ∧ a.toInt < (G 3 0).toInt
  · have an : ((a.toInt.toNat : Nat) : Int) < (G 3 0).toInt := by omega
    have am : 0 ≤ a.toInt ∧ a.toInt < 8 := by omega
    have ax : 0 ≤ a.toInt ∧ a.toInt < ((8 : Nat) : Int) := am
    simp only [if_pos c1, nm_ap, bnd_ap, bns_ap, bnx_ap0, bnx_ap1, bnx_ap2, bnx_ap3, bnx_ap4, gz_0, gz_1, dvd_96, dvd_2, dvd_10000, rmd_96, rmd_8, xg_at, xg_0, mr_at, up_xg, up_mr, narz_0, narz_1, i10, i01, i11, i00, ↓reduceIte, e10, e01, e50, e51, e20, e60, e70, e30, e40, Classical.not_not, not_true_eq_false, not_false_eq_true, x_range, m_outside, Int32.reduceToInt, x_state, m_raise0, m_raise1, up_mr0, ite_not, ald_in ax, mb_0 am, hg.1.b0 an]
    exact OKx.good (h.thm 0) (by rw [th_mr, th_at])
  · simp only [if_neg c1, nm_ap, bnd_ap, bns_ap, bnx_ap0, bnx_ap1, bnx_ap2, bnx_ap3, bnx_ap4, gz_0, gz_1, dvd_96, dvd_2, dvd_10000, rmd_96, rmd_8, xg_at, xg_0, mr_at, up_xg, up_mr, narz_0, narz_1, i10, i01, i11, i00, ↓reduceIte, e10, e01, e50, e51, e20, e60, e70, e30, e40, Classical.not_not, not_true_eq_false, not_false_eq_true, x_range, m_outside, Int32.reduceToInt, x_state, m_raise0, m_raise1, up_mr0, ite_not]
    exact OKx.bad 0 rfl (by decide) rfl (h.thm 0)
theorem ok_blooms {σ τ : Sig} {G : Gd} {w : Rw} (a : Int32) (h : Rl (xg σ 8 G) (mr τ w)) : OKx [2] (f11_blooms a (xg σ 8 G)) (f12_blooms a (mr τ w)) := by
  have hg := h.gp
  have h0 := hg.2.1
  unfold f11_blooms f12_blooms f12_bedField
  simp only [nm_ap, up_mr0, x_bedq, m_noBed hg]
  by_cases c1 : 0 ≤ a.toInt ∧ a.toInt < (G 3 0).toInt
  · have an : ((a.toInt.toNat : Nat) : Int) < (G 3 0).toInt := by omega
    have am : 0 ≤ a.toInt ∧ a.toInt < 8 := by omega
    have ax : 0 ≤ a.toInt ∧ a.toInt < ((8 : Nat) : Int) := am
    simp only [if_pos c1, nm_ap, bnd_ap, bns_ap, bnx_ap0, bnx_ap1, bnx_ap2, bnx_ap3, bnx_ap4, gz_0, gz_1, dvd_96, dvd_2, dvd_10000, rmd_96, rmd_8, xg_at, xg_0, mr_at, up_xg, up_mr, narz_0, narz_1, i10, i01, i11, i00, ↓reduceIte, e10, e01, e50, e51, e20, e60, e70, e30, e40, Classical.not_not, not_true_eq_false, not_false_eq_true, x_range, m_outside, Int32.reduceToInt, x_state, m_raise0, m_raise1, up_mr0, ite_not, ald_in ax, mb_4 am, hg.1.b4 an]
    exact OKx.good (h.thm 0) (by rw [th_mr, th_at])
  · simp only [if_neg c1, nm_ap, bnd_ap, bns_ap, bnx_ap0, bnx_ap1, bnx_ap2, bnx_ap3, bnx_ap4, gz_0, gz_1, dvd_96, dvd_2, dvd_10000, rmd_96, rmd_8, xg_at, xg_0, mr_at, up_xg, up_mr, narz_0, narz_1, i10, i01, i11, i00, ↓reduceIte, e10, e01, e50, e51, e20, e60, e70, e30, e40, Classical.not_not, not_true_eq_false, not_false_eq_true, x_range, m_outside, Int32.reduceToInt, x_state, m_raise0, m_raise1, up_mr0, ite_not]
    exact OKx.bad 0 rfl (by decide) rfl (h.thm 0)
theorem ok_visitsTo {σ τ : Sig} {G : Gd} {w : Rw} (a : Int32) (h : Rl (xg σ 8 G) (mr τ w)) : OKx [2] (f11_visitsTo a (xg σ 8 G)) (f12_visitsTo a (mr τ w)) := by
  have hg := h.gp
  have h0 := hg.2.1
  unfold f11_visitsTo f12_visitsTo f12_bedField
  simp only [nm_ap, up_mr0, x_bedq, m_noBed hg]
  by_cases c1 : 0 ≤ a.toInt ∧ a.toInt < (G 3 0).toInt
  · have an : ((a.toInt.toNat : Nat) : Int) < (G 3 0).toInt := by omega
    have am : 0 ≤ a.toInt ∧ a.toInt < 8 := by omega
    have ax : 0 ≤ a.toInt ∧ a.toInt < ((8 : Nat) : Int) := am
    simp only [if_pos c1, nm_ap, bnd_ap, bns_ap, bnx_ap0, bnx_ap1, bnx_ap2, bnx_ap3, bnx_ap4, gz_0, gz_1, dvd_96, dvd_2, dvd_10000, rmd_96, rmd_8, xg_at, xg_0, mr_at, up_xg, up_mr, narz_0, narz_1, i10, i01, i11, i00, ↓reduceIte, e10, e01, e50, e51, e20, e60, e70, e30, e40, Classical.not_not, not_true_eq_false, not_false_eq_true, x_range, m_outside, Int32.reduceToInt, x_state, m_raise0, m_raise1, up_mr0, ite_not, ald_in ax, mb_6 am, hg.1.b6 an]
    exact OKx.good (h.thm 0) (by rw [th_mr, th_at])
  · simp only [if_neg c1, nm_ap, bnd_ap, bns_ap, bnx_ap0, bnx_ap1, bnx_ap2, bnx_ap3, bnx_ap4, gz_0, gz_1, dvd_96, dvd_2, dvd_10000, rmd_96, rmd_8, xg_at, xg_0, mr_at, up_xg, up_mr, narz_0, narz_1, i10, i01, i11, i00, ↓reduceIte, e10, e01, e50, e51, e20, e60, e70, e30, e40, Classical.not_not, not_true_eq_false, not_false_eq_true, x_range, m_outside, Int32.reduceToInt, x_state, m_raise0, m_raise1, up_mr0, ite_not]
    exact OKx.bad 0 rfl (by decide) rfl (h.thm 0)
theorem ok_placesLeft {σ τ : Sig} {G : Gd} {w : Rw} (a : Int32) (h : Rl (xg σ 8 G) (mr τ w)) : OKx [2] (f11_placesLeft a (xg σ 8 G)) (f12_placesLeft a (mr τ w)) := by
  have hg := h.gp
  have h0 := hg.2.1
  unfold f11_placesLeft f12_placesLeft 
  simp only [nm_ap, up_mr0, x_bedq, m_noBed hg]
  by_cases c1 : 0 ≤ a.toInt ∧ a.toInt < (G 3 0).toInt
  · have an : ((a.toInt.toNat : Nat) : Int) < (G 3 0).toInt := by omega
    have am : 0 ≤ a.toInt ∧ a.toInt < 8 := by omega
    have ax : 0 ≤ a.toInt ∧ a.toInt < ((8 : Nat) : Int) := am
    simp only [if_pos c1, nm_ap, bnd_ap, bns_ap, bnx_ap0, bnx_ap1, bnx_ap2, bnx_ap3, bnx_ap4, gz_0, gz_1, dvd_96, dvd_2, dvd_10000, rmd_96, rmd_8, xg_at, xg_0, mr_at, up_xg, up_mr, narz_0, narz_1, i10, i01, i11, i00, ↓reduceIte, e10, e01, e50, e51, e20, e60, e70, e30, e40, Classical.not_not, not_true_eq_false, not_false_eq_true, x_range, m_outside, Int32.reduceToInt, x_state, m_raise0, m_raise1, up_mr0, ite_not, x_free am, mb_1 am, hg.1.b1 an, mb_5 am, hg.1.b5 an]
    exact OKx.good (h.thm 0) (by rw [th_mr, th_at])
  · simp only [if_neg c1, nm_ap, bnd_ap, bns_ap, bnx_ap0, bnx_ap1, bnx_ap2, bnx_ap3, bnx_ap4, gz_0, gz_1, dvd_96, dvd_2, dvd_10000, rmd_96, rmd_8, xg_at, xg_0, mr_at, up_xg, up_mr, narz_0, narz_1, i10, i01, i11, i00, ↓reduceIte, e10, e01, e50, e51, e20, e60, e70, e30, e40, Classical.not_not, not_true_eq_false, not_false_eq_true, x_range, m_outside, Int32.reduceToInt, x_state, m_raise0, m_raise1, up_mr0, ite_not]
    exact OKx.bad 0 rfl (by decide) rfl (h.thm 0)
theorem ok_scentsOf {σ τ : Sig} {G : Gd} {w : Rw} (a : Int32) (h : Rl (xg σ 8 G) (mr τ w)) : OKx [2] (f11_scentsOf a (xg σ 8 G)) (f12_scentsOf a (mr τ w)) := by
  have hg := h.gp
  have h0 := hg.2.1
  unfold f11_scentsOf f12_scentsOf f12_field
  simp only [nm_ap, up_mr0, x_pass, m_noPass hg]
  by_cases c1 : 0 ≤ a.toInt ∧ a.toInt < (G 4 0).toInt
  · have an : ((a.toInt.toNat : Nat) : Int) < (G 4 0).toInt := by omega
    have am : 0 ≤ a.toInt ∧ a.toInt < 30 := by omega
    have ax : 0 ≤ a.toInt ∧ a.toInt < ((30 : Nat) : Int) := am
    simp only [if_pos c1, nm_ap, bnd_ap, bns_ap, bnx_ap0, bnx_ap1, bnx_ap2, bnx_ap3, bnx_ap4, gz_0, gz_1, dvd_96, dvd_2, dvd_10000, rmd_96, rmd_8, xg_at, xg_0, mr_at, up_xg, up_mr, narz_0, narz_1, i10, i01, i11, i00, ↓reduceIte, e10, e01, e50, e51, e20, e60, e70, e30, e40, Classical.not_not, not_true_eq_false, not_false_eq_true, x_range, m_outside, Int32.reduceToInt, x_state, m_raise0, m_raise1, up_mr0, ite_not, ald_in ax, mo_0 am, hg.1.p0 an]
    exact OKx.good (h.thm 0) (by rw [th_mr, th_at])
  · simp only [if_neg c1, nm_ap, bnd_ap, bns_ap, bnx_ap0, bnx_ap1, bnx_ap2, bnx_ap3, bnx_ap4, gz_0, gz_1, dvd_96, dvd_2, dvd_10000, rmd_96, rmd_8, xg_at, xg_0, mr_at, up_xg, up_mr, narz_0, narz_1, i10, i01, i11, i00, ↓reduceIte, e10, e01, e50, e51, e20, e60, e70, e30, e40, Classical.not_not, not_true_eq_false, not_false_eq_true, x_range, m_outside, Int32.reduceToInt, x_state, m_raise0, m_raise1, up_mr0, ite_not]
    exact OKx.bad 0 rfl (by decide) rfl (h.thm 0)
theorem ok_firstDay {σ τ : Sig} {G : Gd} {w : Rw} (a : Int32) (h : Rl (xg σ 8 G) (mr τ w)) : OKx [2] (f11_firstDay a (xg σ 8 G)) (f12_firstDay a (mr τ w)) := by
  have hg := h.gp
  have h0 := hg.2.1
  unfold f11_firstDay f12_firstDay f12_field
  simp only [nm_ap, up_mr0, x_pass, m_noPass hg]
  by_cases c1 : 0 ≤ a.toInt ∧ a.toInt < (G 4 0).toInt
  · have an : ((a.toInt.toNat : Nat) : Int) < (G 4 0).toInt := by omega
    have am : 0 ≤ a.toInt ∧ a.toInt < 30 := by omega
    have ax : 0 ≤ a.toInt ∧ a.toInt < ((30 : Nat) : Int) := am
    simp only [if_pos c1, nm_ap, bnd_ap, bns_ap, bnx_ap0, bnx_ap1, bnx_ap2, bnx_ap3, bnx_ap4, gz_0, gz_1, dvd_96, dvd_2, dvd_10000, rmd_96, rmd_8, xg_at, xg_0, mr_at, up_xg, up_mr, narz_0, narz_1, i10, i01, i11, i00, ↓reduceIte, e10, e01, e50, e51, e20, e60, e70, e30, e40, Classical.not_not, not_true_eq_false, not_false_eq_true, x_range, m_outside, Int32.reduceToInt, x_state, m_raise0, m_raise1, up_mr0, ite_not, ald_in ax, mo_1 am, hg.1.p1 an]
    exact OKx.good (h.thm 0) (by rw [th_mr, th_at])
  · simp only [if_neg c1, nm_ap, bnd_ap, bns_ap, bnx_ap0, bnx_ap1, bnx_ap2, bnx_ap3, bnx_ap4, gz_0, gz_1, dvd_96, dvd_2, dvd_10000, rmd_96, rmd_8, xg_at, xg_0, mr_at, up_xg, up_mr, narz_0, narz_1, i10, i01, i11, i00, ↓reduceIte, e10, e01, e50, e51, e20, e60, e70, e30, e40, Classical.not_not, not_true_eq_false, not_false_eq_true, x_range, m_outside, Int32.reduceToInt, x_state, m_raise0, m_raise1, up_mr0, ite_not]
    exact OKx.bad 0 rfl (by decide) rfl (h.thm 0)
theorem ok_priceOf {σ τ : Sig} {G : Gd} {w : Rw} (a : Int32) (h : Rl (xg σ 8 G) (mr τ w)) : OKx [2] (f11_priceOf a (xg σ 8 G)) (f12_priceOf a (mr τ w)) := by
  have hg := h.gp
  have h0 := hg.2.1
  unfold f11_priceOf f12_priceOf f12_field
  simp only [nm_ap, up_mr0, x_pass, m_noPass hg]
  by_cases c1 : 0 ≤ a.toInt ∧ a.toInt < (G 4 0).toInt
  · have an : ((a.toInt.toNat : Nat) : Int) < (G 4 0).toInt := by omega
    have am : 0 ≤ a.toInt ∧ a.toInt < 30 := by omega
    have ax : 0 ≤ a.toInt ∧ a.toInt < ((30 : Nat) : Int) := am
    simp only [if_pos c1, nm_ap, bnd_ap, bns_ap, bnx_ap0, bnx_ap1, bnx_ap2, bnx_ap3, bnx_ap4, gz_0, gz_1, dvd_96, dvd_2, dvd_10000, rmd_96, rmd_8, xg_at, xg_0, mr_at, up_xg, up_mr, narz_0, narz_1, i10, i01, i11, i00, ↓reduceIte, e10, e01, e50, e51, e20, e60, e70, e30, e40, Classical.not_not, not_true_eq_false, not_false_eq_true, x_range, m_outside, Int32.reduceToInt, x_state, m_raise0, m_raise1, up_mr0, ite_not, ald_in ax, mo_4 am, hg.1.p4 an]
    exact OKx.good (h.thm 0) (by rw [th_mr, th_at])
  · simp only [if_neg c1, nm_ap, bnd_ap, bns_ap, bnx_ap0, bnx_ap1, bnx_ap2, bnx_ap3, bnx_ap4, gz_0, gz_1, dvd_96, dvd_2, dvd_10000, rmd_96, rmd_8, xg_at, xg_0, mr_at, up_xg, up_mr, narz_0, narz_1, i10, i01, i11, i00, ↓reduceIte, e10, e01, e50, e51, e20, e60, e70, e30, e40, Classical.not_not, not_true_eq_false, not_false_eq_true, x_range, m_outside, Int32.reduceToInt, x_state, m_raise0, m_raise1, up_mr0, ite_not]
    exact OKx.bad 0 rfl (by decide) rfl (h.thm 0)
theorem ok_cardOf {σ τ : Sig} {G : Gd} {w : Rw} (a : Int32) (h : Rl (xg σ 8 G) (mr τ w)) : OKx [2] (f11_cardOf a (xg σ 8 G)) (f12_cardOf a (mr τ w)) := by
  have hg := h.gp
  have h0 := hg.2.1
  unfold f11_cardOf f12_cardOf f12_field
  simp only [nm_ap, up_mr0, x_pass, m_noPass hg]
  by_cases c1 : 0 ≤ a.toInt ∧ a.toInt < (G 4 0).toInt
  · have an : ((a.toInt.toNat : Nat) : Int) < (G 4 0).toInt := by omega
    have am : 0 ≤ a.toInt ∧ a.toInt < 30 := by omega
    have ax : 0 ≤ a.toInt ∧ a.toInt < ((30 : Nat) : Int) := am
    simp only [if_pos c1, nm_ap, bnd_ap, bns_ap, bnx_ap0, bnx_ap1, bnx_ap2, bnx_ap3, bnx_ap4, gz_0, gz_1, dvd_96, dvd_2, dvd_10000, rmd_96, rmd_8, xg_at, xg_0, mr_at, up_xg, up_mr, narz_0, narz_1, i10, i01, i11, i00, ↓reduceIte, e10, e01, e50, e51, e20, e60, e70, e30, e40, Classical.not_not, not_true_eq_false, not_false_eq_true, x_range, m_outside, Int32.reduceToInt, x_state, m_raise0, m_raise1, up_mr0, ite_not, ald_in ax, mo_5 am, hg.1.p5 an]
    exact OKx.good (h.thm 0) (by rw [th_mr, th_at])
  · simp only [if_neg c1, nm_ap, bnd_ap, bns_ap, bnx_ap0, bnx_ap1, bnx_ap2, bnx_ap3, bnx_ap4, gz_0, gz_1, dvd_96, dvd_2, dvd_10000, rmd_96, rmd_8, xg_at, xg_0, mr_at, up_xg, up_mr, narz_0, narz_1, i10, i01, i11, i00, ↓reduceIte, e10, e01, e50, e51, e20, e60, e70, e30, e40, Classical.not_not, not_true_eq_false, not_false_eq_true, x_range, m_outside, Int32.reduceToInt, x_state, m_raise0, m_raise1, up_mr0, ite_not]
    exact OKx.bad 0 rfl (by decide) rfl (h.thm 0)
theorem ok_visitsWith {σ τ : Sig} {G : Gd} {w : Rw} (a : Int32) (h : Rl (xg σ 8 G) (mr τ w)) : OKx [2] (f11_visitsWith a (xg σ 8 G)) (f12_visitsWith a (mr τ w)) := by
  have hg := h.gp
  have h0 := hg.2.1
  unfold f11_visitsWith f12_visitsWith f12_field
  simp only [nm_ap, up_mr0, x_pass, m_noPass hg]
  by_cases c1 : 0 ≤ a.toInt ∧ a.toInt < (G 4 0).toInt
  · have an : ((a.toInt.toNat : Nat) : Int) < (G 4 0).toInt := by omega
    have am : 0 ≤ a.toInt ∧ a.toInt < 30 := by omega
    have ax : 0 ≤ a.toInt ∧ a.toInt < ((30 : Nat) : Int) := am
    simp only [if_pos c1, nm_ap, bnd_ap, bns_ap, bnx_ap0, bnx_ap1, bnx_ap2, bnx_ap3, bnx_ap4, gz_0, gz_1, dvd_96, dvd_2, dvd_10000, rmd_96, rmd_8, xg_at, xg_0, mr_at, up_xg, up_mr, narz_0, narz_1, i10, i01, i11, i00, ↓reduceIte, e10, e01, e50, e51, e20, e60, e70, e30, e40, Classical.not_not, not_true_eq_false, not_false_eq_true, x_range, m_outside, Int32.reduceToInt, x_state, m_raise0, m_raise1, up_mr0, ite_not, ald_in ax, mo_8 am, hg.1.p8 an]
    exact OKx.good (h.thm 0) (by rw [th_mr, th_at])
  · simp only [if_neg c1, nm_ap, bnd_ap, bns_ap, bnx_ap0, bnx_ap1, bnx_ap2, bnx_ap3, bnx_ap4, gz_0, gz_1, dvd_96, dvd_2, dvd_10000, rmd_96, rmd_8, xg_at, xg_0, mr_at, up_xg, up_mr, narz_0, narz_1, i10, i01, i11, i00, ↓reduceIte, e10, e01, e50, e51, e20, e60, e70, e30, e40, Classical.not_not, not_true_eq_false, not_false_eq_true, x_range, m_outside, Int32.reduceToInt, x_state, m_raise0, m_raise1, up_mr0, ite_not]
    exact OKx.bad 0 rfl (by decide) rfl (h.thm 0)
theorem ok_owed {σ τ : Sig} {G : Gd} {w : Rw} (a : Int32) (h : Rl (xg σ 8 G) (mr τ w)) : OKx [2] (f11_owed a (xg σ 8 G)) (f12_owed a (mr τ w)) := by
  have hg := h.gp
  have h0 := hg.2.1
  unfold f11_owed f12_owed f12_field
  simp only [nm_ap, up_mr0, x_pass, m_noPass hg]
  by_cases c1 : 0 ≤ a.toInt ∧ a.toInt < (G 4 0).toInt
  · have an : ((a.toInt.toNat : Nat) : Int) < (G 4 0).toInt := by omega
    have am : 0 ≤ a.toInt ∧ a.toInt < 30 := by omega
    have ax : 0 ≤ a.toInt ∧ a.toInt < ((30 : Nat) : Int) := am
    simp only [if_pos c1, nm_ap, bnd_ap, bns_ap, bnx_ap0, bnx_ap1, bnx_ap2, bnx_ap3, bnx_ap4, gz_0, gz_1, dvd_96, dvd_2, dvd_10000, rmd_96, rmd_8, xg_at, xg_0, mr_at, up_xg, up_mr, narz_0, narz_1, i10, i01, i11, i00, ↓reduceIte, e10, e01, e50, e51, e20, e60, e70, e30, e40, Classical.not_not, not_true_eq_false, not_false_eq_true, x_range, m_outside, Int32.reduceToInt, x_state, m_raise0, m_raise1, up_mr0, ite_not, ald_in ax, mo_11 am, hg.1.p11 an]
    exact OKx.good (h.thm 0) (by rw [th_mr, th_at])
  · simp only [if_neg c1, nm_ap, bnd_ap, bns_ap, bnx_ap0, bnx_ap1, bnx_ap2, bnx_ap3, bnx_ap4, gz_0, gz_1, dvd_96, dvd_2, dvd_10000, rmd_96, rmd_8, xg_at, xg_0, mr_at, up_xg, up_mr, narz_0, narz_1, i10, i01, i11, i00, ↓reduceIte, e10, e01, e50, e51, e20, e60, e70, e30, e40, Classical.not_not, not_true_eq_false, not_false_eq_true, x_range, m_outside, Int32.reduceToInt, x_state, m_raise0, m_raise1, up_mr0, ite_not]
    exact OKx.bad 0 rfl (by decide) rfl (h.thm 0)
theorem ok_lastDay {σ τ : Sig} {G : Gd} {w : Rw} (a : Int32) (h : Rl (xg σ 8 G) (mr τ w)) : OKx [2] (f11_lastDay a (xg σ 8 G)) (f12_lastDay a (mr τ w)) := by
  have hg := h.gp
  have h0 := hg.2.1
  unfold f11_lastDay f12_lastDay f12_lastOf
  simp only [nm_ap, up_mr0, x_pass, m_noPass hg]
  by_cases c1 : 0 ≤ a.toInt ∧ a.toInt < (G 4 0).toInt
  · have an : ((a.toInt.toNat : Nat) : Int) < (G 4 0).toInt := by omega
    have am : 0 ≤ a.toInt ∧ a.toInt < 30 := by omega
    have ax : 0 ≤ a.toInt ∧ a.toInt < ((30 : Nat) : Int) := am
    simp only [if_pos c1, nm_ap, bnd_ap, bns_ap, bnx_ap0, bnx_ap1, bnx_ap2, bnx_ap3, bnx_ap4, gz_0, gz_1, dvd_96, dvd_2, dvd_10000, rmd_96, rmd_8, xg_at, xg_0, mr_at, up_xg, up_mr, narz_0, narz_1, i10, i01, i11, i00, ↓reduceIte, e10, e01, e50, e51, e20, e60, e70, e30, e40, Classical.not_not, not_true_eq_false, not_false_eq_true, x_range, m_outside, Int32.reduceToInt, x_state, m_raise0, m_raise1, up_mr0, ite_not, x_final am, mo_1 am, hg.1.p1 an, mo_2 am, hg.1.p2 an]
    exact OKx.good (h.thm 0) (by rw [th_mr, th_at])
  · simp only [if_neg c1, nm_ap, bnd_ap, bns_ap, bnx_ap0, bnx_ap1, bnx_ap2, bnx_ap3, bnx_ap4, gz_0, gz_1, dvd_96, dvd_2, dvd_10000, rmd_96, rmd_8, xg_at, xg_0, mr_at, up_xg, up_mr, narz_0, narz_1, i10, i01, i11, i00, ↓reduceIte, e10, e01, e50, e51, e20, e60, e70, e30, e40, Classical.not_not, not_true_eq_false, not_false_eq_true, x_range, m_outside, Int32.reduceToInt, x_state, m_raise0, m_raise1, up_mr0, ite_not]
    exact OKx.bad 0 rfl (by decide) rfl (h.thm 0)
theorem ok_usedDays {σ τ : Sig} {G : Gd} {w : Rw} (a : Int32) (h : Rl (xg σ 8 G) (mr τ w)) : OKx [2] (f11_usedDays a (xg σ 8 G)) (f12_usedDays a (mr τ w)) := by
  have hg := h.gp
  have h0 := hg.2.1
  unfold f11_usedDays f12_usedDays 
  simp only [nm_ap, up_mr0, x_pass, m_noPass hg]
  by_cases c1 : 0 ≤ a.toInt ∧ a.toInt < (G 4 0).toInt
  · have an : ((a.toInt.toNat : Nat) : Int) < (G 4 0).toInt := by omega
    have am : 0 ≤ a.toInt ∧ a.toInt < 30 := by omega
    have ax : 0 ≤ a.toInt ∧ a.toInt < ((30 : Nat) : Int) := am
    have h1 := hg.2.p an
    have hu : 0 ≤ (G 22 a.toInt.toNat).toInt ∧ (G 22 a.toInt.toNat).toInt < 16384 := by omega
    simp only [if_pos c1, nm_ap, bnd_ap, bns_ap, bnx_ap0, bnx_ap1, bnx_ap2, bnx_ap3, bnx_ap4, gz_0, gz_1, dvd_96, dvd_2, dvd_10000, rmd_96, rmd_8, xg_at, xg_0, mr_at, up_xg, up_mr, narz_0, narz_1, i10, i01, i11, i00, ↓reduceIte, e10, e01, e50, e51, e20, e60, e70, e30, e40, Classical.not_not, not_true_eq_false, not_false_eq_true, x_range, m_outside, Int32.reduceToInt, x_state, m_raise0, m_raise1, up_mr0, ite_not, x_used am, mo_7 am, hg.1.p7 an, m_ones hu]
    exact OKx.good (h.thm 0) (by rw [th_mr, th_at])
  · simp only [if_neg c1, nm_ap, bnd_ap, bns_ap, bnx_ap0, bnx_ap1, bnx_ap2, bnx_ap3, bnx_ap4, gz_0, gz_1, dvd_96, dvd_2, dvd_10000, rmd_96, rmd_8, xg_at, xg_0, mr_at, up_xg, up_mr, narz_0, narz_1, i10, i01, i11, i00, ↓reduceIte, e10, e01, e50, e51, e20, e60, e70, e30, e40, Classical.not_not, not_true_eq_false, not_false_eq_true, x_range, m_outside, Int32.reduceToInt, x_state, m_raise0, m_raise1, up_mr0, ite_not]
    exact OKx.bad 0 rfl (by decide) rfl (h.thm 0)
theorem ok_refundOf {σ τ : Sig} {G : Gd} {w : Rw} (a : Int32) (h : Rl (xg σ 8 G) (mr τ w)) : OKx [2] (f11_refundOf a (xg σ 8 G)) (f12_refundOf a (mr τ w)) := by
  have hg := h.gp
  have h0 := hg.2.1
  unfold f11_refundOf f12_refundOf 
  simp only [nm_ap, up_mr0, x_pass, m_noPass hg]
  by_cases c1 : 0 ≤ a.toInt ∧ a.toInt < (G 4 0).toInt
  · have an : ((a.toInt.toNat : Nat) : Int) < (G 4 0).toInt := by omega
    have am : 0 ≤ a.toInt ∧ a.toInt < 30 := by omega
    have ax : 0 ≤ a.toInt ∧ a.toInt < ((30 : Nat) : Int) := am
    simp only [if_pos c1, nm_ap, bnd_ap, bns_ap, bnx_ap0, bnx_ap1, bnx_ap2, bnx_ap3, bnx_ap4, gz_0, gz_1, dvd_96, dvd_2, dvd_10000, rmd_96, rmd_8, xg_at, xg_0, mr_at, up_xg, up_mr, narz_0, narz_1, i10, i01, i11, i00, ↓reduceIte, e10, e01, e50, e51, e20, e60, e70, e30, e40, Classical.not_not, not_true_eq_false, not_false_eq_true, x_range, m_outside, Int32.reduceToInt, x_state, m_raise0, m_raise1, up_mr0, ite_not, x_refund hg.2 c1, m_refund hg.1 hg.2 _ c1]
    exact OKx.good (h.thm 0) (by rw [th_mr, th_at])
  · simp only [if_neg c1, nm_ap, bnd_ap, bns_ap, bnx_ap0, bnx_ap1, bnx_ap2, bnx_ap3, bnx_ap4, gz_0, gz_1, dvd_96, dvd_2, dvd_10000, rmd_96, rmd_8, xg_at, xg_0, mr_at, up_xg, up_mr, narz_0, narz_1, i10, i01, i11, i00, ↓reduceIte, e10, e01, e50, e51, e20, e60, e70, e30, e40, Classical.not_not, not_true_eq_false, not_false_eq_true, x_range, m_outside, Int32.reduceToInt, x_state, m_raise0, m_raise1, up_mr0, ite_not]
    exact OKx.bad 0 rfl (by decide) rfl (h.thm 0)
theorem ok_passOf {σ τ : Sig} {G : Gd} {w : Rw} (a : Int32) (h : Rl (xg σ 8 G) (mr τ w)) : OKx [2] (f11_passOf a (xg σ 8 G)) (f12_passOf a (mr τ w)) := by
  have hg := h.gp
  have h0 := hg.2.1
  unfold f11_passOf f12_passOf 
  simp only [nm_ap, up_mr0, x_cardq, m_noCard hg]
  by_cases c1 : 0 ≤ a.toInt ∧ a.toInt < (G 5 0).toInt
  · have an : ((a.toInt.toNat : Nat) : Int) < (G 5 0).toInt := by omega
    have am : 0 ≤ a.toInt ∧ a.toInt < 50 := by omega
    have ax : 0 ≤ a.toInt ∧ a.toInt < ((50 : Nat) : Int) := am
    simp only [if_pos c1, nm_ap, bnd_ap, bns_ap, bnx_ap0, bnx_ap1, bnx_ap2, bnx_ap3, bnx_ap4, gz_0, gz_1, dvd_96, dvd_2, dvd_10000, rmd_96, rmd_8, xg_at, xg_0, mr_at, up_xg, up_mr, narz_0, narz_1, i10, i01, i11, i00, ↓reduceIte, e10, e01, e50, e51, e20, e60, e70, e30, e40, Classical.not_not, not_true_eq_false, not_false_eq_true, x_range, m_outside, Int32.reduceToInt, x_state, m_raise0, m_raise1, up_mr0, ite_not, ald_in ax, m_passOfCard am, hg.1.k0 an]
    exact OKx.good (h.thm 0) (by rw [th_mr, th_at])
  · simp only [if_neg c1, nm_ap, bnd_ap, bns_ap, bnx_ap0, bnx_ap1, bnx_ap2, bnx_ap3, bnx_ap4, gz_0, gz_1, dvd_96, dvd_2, dvd_10000, rmd_96, rmd_8, xg_at, xg_0, mr_at, up_xg, up_mr, narz_0, narz_1, i10, i01, i11, i00, ↓reduceIte, e10, e01, e50, e51, e20, e60, e70, e30, e40, Classical.not_not, not_true_eq_false, not_false_eq_true, x_range, m_outside, Int32.reduceToInt, x_state, m_raise0, m_raise1, up_mr0, ite_not]
    exact OKx.bad 0 rfl (by decide) rfl (h.thm 0)
theorem ok_time {σ τ : Sig} {G : Gd} {w : Rw} (h : Rl (xg σ 8 G) (mr τ w)) : OKp (xg σ 8 G) (f11_time (xg σ 8 G)) (f12_time (mr τ w)) := by
  have hg := h.gp
  unfold f11_time f12_time f12_told
  simp only [nm_ap, bnd_ap, bns_ap, bnx_ap0, bnx_ap1, bnx_ap2, bnx_ap3, bnx_ap4, gz_0, gz_1, dvd_96, dvd_2, dvd_10000, rmd_96, rmd_8, xg_at, xg_0, mr_at, up_xg, up_mr, narz_0, narz_1, i10, i01, i11, i00, ↓reduceIte, e10, e01, e50, e51, e20, e60, e70, e30, e40, Classical.not_not, not_true_eq_false, not_false_eq_true, x_range, m_outside, Int32.reduceToInt, x_state, m_raise0, m_raise1, up_mr0, ite_not, al_0, al_1, al_2, al_3, al_4, al_5, al_6, al_7, al_8, al_9, al_10, al_11, al_12, al_13, al_14, hg.1.s4]
  exact ⟨_, _, rfl, rfl, h.thm 0⟩
theorem ok_bedCount {σ τ : Sig} {G : Gd} {w : Rw} (h : Rl (xg σ 8 G) (mr τ w)) : OKp (xg σ 8 G) (f11_bedCount (xg σ 8 G)) (f12_bedCount (mr τ w)) := by
  have hg := h.gp
  unfold f11_bedCount f12_bedCount f12_told
  simp only [nm_ap, bnd_ap, bns_ap, bnx_ap0, bnx_ap1, bnx_ap2, bnx_ap3, bnx_ap4, gz_0, gz_1, dvd_96, dvd_2, dvd_10000, rmd_96, rmd_8, xg_at, xg_0, mr_at, up_xg, up_mr, narz_0, narz_1, i10, i01, i11, i00, ↓reduceIte, e10, e01, e50, e51, e20, e60, e70, e30, e40, Classical.not_not, not_true_eq_false, not_false_eq_true, x_range, m_outside, Int32.reduceToInt, x_state, m_raise0, m_raise1, up_mr0, ite_not, al_0, al_1, al_2, al_3, al_4, al_5, al_6, al_7, al_8, al_9, al_10, al_11, al_12, al_13, al_14, hg.1.s1]
  exact ⟨_, _, rfl, rfl, h.thm 0⟩
theorem ok_passCount {σ τ : Sig} {G : Gd} {w : Rw} (h : Rl (xg σ 8 G) (mr τ w)) : OKp (xg σ 8 G) (f11_passCount (xg σ 8 G)) (f12_passCount (mr τ w)) := by
  have hg := h.gp
  unfold f11_passCount f12_passCount f12_told
  simp only [nm_ap, bnd_ap, bns_ap, bnx_ap0, bnx_ap1, bnx_ap2, bnx_ap3, bnx_ap4, gz_0, gz_1, dvd_96, dvd_2, dvd_10000, rmd_96, rmd_8, xg_at, xg_0, mr_at, up_xg, up_mr, narz_0, narz_1, i10, i01, i11, i00, ↓reduceIte, e10, e01, e50, e51, e20, e60, e70, e30, e40, Classical.not_not, not_true_eq_false, not_false_eq_true, x_range, m_outside, Int32.reduceToInt, x_state, m_raise0, m_raise1, up_mr0, ite_not, al_0, al_1, al_2, al_3, al_4, al_5, al_6, al_7, al_8, al_9, al_10, al_11, al_12, al_13, al_14, hg.1.s2]
  exact ⟨_, _, rfl, rfl, h.thm 0⟩
theorem ok_cardCount {σ τ : Sig} {G : Gd} {w : Rw} (h : Rl (xg σ 8 G) (mr τ w)) : OKp (xg σ 8 G) (f11_cardCount (xg σ 8 G)) (f12_cardCount (mr τ w)) := by
  have hg := h.gp
  unfold f11_cardCount f12_cardCount f12_told
  simp only [nm_ap, bnd_ap, bns_ap, bnx_ap0, bnx_ap1, bnx_ap2, bnx_ap3, bnx_ap4, gz_0, gz_1, dvd_96, dvd_2, dvd_10000, rmd_96, rmd_8, xg_at, xg_0, mr_at, up_xg, up_mr, narz_0, narz_1, i10, i01, i11, i00, ↓reduceIte, e10, e01, e50, e51, e20, e60, e70, e30, e40, Classical.not_not, not_true_eq_false, not_false_eq_true, x_range, m_outside, Int32.reduceToInt, x_state, m_raise0, m_raise1, up_mr0, ite_not, al_0, al_1, al_2, al_3, al_4, al_5, al_6, al_7, al_8, al_9, al_10, al_11, al_12, al_13, al_14, hg.1.s3]
  exact ⟨_, _, rfl, rfl, h.thm 0⟩
theorem ok_takings {σ τ : Sig} {G : Gd} {w : Rw} (h : Rl (xg σ 8 G) (mr τ w)) : OKp (xg σ 8 G) (f11_takings (xg σ 8 G)) (f12_takings (mr τ w)) := by
  have hg := h.gp
  unfold f11_takings f12_takings f12_told
  simp only [nm_ap, bnd_ap, bns_ap, bnx_ap0, bnx_ap1, bnx_ap2, bnx_ap3, bnx_ap4, gz_0, gz_1, dvd_96, dvd_2, dvd_10000, rmd_96, rmd_8, xg_at, xg_0, mr_at, up_xg, up_mr, narz_0, narz_1, i10, i01, i11, i00, ↓reduceIte, e10, e01, e50, e51, e20, e60, e70, e30, e40, Classical.not_not, not_true_eq_false, not_false_eq_true, x_range, m_outside, Int32.reduceToInt, x_state, m_raise0, m_raise1, up_mr0, ite_not, al_0, al_1, al_2, al_3, al_4, al_5, al_6, al_7, al_8, al_9, al_10, al_11, al_12, al_13, al_14, hg.1.s9]
  exact ⟨_, _, rfl, rfl, h.thm 0⟩
theorem ok_refunds {σ τ : Sig} {G : Gd} {w : Rw} (h : Rl (xg σ 8 G) (mr τ w)) : OKp (xg σ 8 G) (f11_refunds (xg σ 8 G)) (f12_refunds (mr τ w)) := by
  have hg := h.gp
  unfold f11_refunds f12_refunds f12_told
  simp only [nm_ap, bnd_ap, bns_ap, bnx_ap0, bnx_ap1, bnx_ap2, bnx_ap3, bnx_ap4, gz_0, gz_1, dvd_96, dvd_2, dvd_10000, rmd_96, rmd_8, xg_at, xg_0, mr_at, up_xg, up_mr, narz_0, narz_1, i10, i01, i11, i00, ↓reduceIte, e10, e01, e50, e51, e20, e60, e70, e30, e40, Classical.not_not, not_true_eq_false, not_false_eq_true, x_range, m_outside, Int32.reduceToInt, x_state, m_raise0, m_raise1, up_mr0, ite_not, al_0, al_1, al_2, al_3, al_4, al_5, al_6, al_7, al_8, al_9, al_10, al_11, al_12, al_13, al_14, hg.1.s10]
  exact ⟨_, _, rfl, rfl, h.thm 0⟩
theorem ok_finesPaid {σ τ : Sig} {G : Gd} {w : Rw} (h : Rl (xg σ 8 G) (mr τ w)) : OKp (xg σ 8 G) (f11_finesPaid (xg σ 8 G)) (f12_finesPaid (mr τ w)) := by
  have hg := h.gp
  unfold f11_finesPaid f12_finesPaid f12_told
  simp only [nm_ap, bnd_ap, bns_ap, bnx_ap0, bnx_ap1, bnx_ap2, bnx_ap3, bnx_ap4, gz_0, gz_1, dvd_96, dvd_2, dvd_10000, rmd_96, rmd_8, xg_at, xg_0, mr_at, up_xg, up_mr, narz_0, narz_1, i10, i01, i11, i00, ↓reduceIte, e10, e01, e50, e51, e20, e60, e70, e30, e40, Classical.not_not, not_true_eq_false, not_false_eq_true, x_range, m_outside, Int32.reduceToInt, x_state, m_raise0, m_raise1, up_mr0, ite_not, al_0, al_1, al_2, al_3, al_4, al_5, al_6, al_7, al_8, al_9, al_10, al_11, al_12, al_13, al_14, hg.1.s11]
  exact ⟨_, _, rfl, rfl, h.thm 0⟩
theorem ok_plucked {σ τ : Sig} {G : Gd} {w : Rw} (h : Rl (xg σ 8 G) (mr τ w)) : OKp (xg σ 8 G) (f11_plucked (xg σ 8 G)) (f12_plucked (mr τ w)) := by
  have hg := h.gp
  unfold f11_plucked f12_plucked f12_told
  simp only [nm_ap, bnd_ap, bns_ap, bnx_ap0, bnx_ap1, bnx_ap2, bnx_ap3, bnx_ap4, gz_0, gz_1, dvd_96, dvd_2, dvd_10000, rmd_96, rmd_8, xg_at, xg_0, mr_at, up_xg, up_mr, narz_0, narz_1, i10, i01, i11, i00, ↓reduceIte, e10, e01, e50, e51, e20, e60, e70, e30, e40, Classical.not_not, not_true_eq_false, not_false_eq_true, x_range, m_outside, Int32.reduceToInt, x_state, m_raise0, m_raise1, up_mr0, ite_not, al_0, al_1, al_2, al_3, al_4, al_5, al_6, al_7, al_8, al_9, al_10, al_11, al_12, al_13, al_14, hg.1.s12]
  exact ⟨_, _, rfl, rfl, h.thm 0⟩
theorem ok_alarms {σ τ : Sig} {G : Gd} {w : Rw} (h : Rl (xg σ 8 G) (mr τ w)) : OKp (xg σ 8 G) (f11_alarms (xg σ 8 G)) (f12_alarms (mr τ w)) := by
  have hg := h.gp
  unfold f11_alarms f12_alarms f12_told
  simp only [nm_ap, bnd_ap, bns_ap, bnx_ap0, bnx_ap1, bnx_ap2, bnx_ap3, bnx_ap4, gz_0, gz_1, dvd_96, dvd_2, dvd_10000, rmd_96, rmd_8, xg_at, xg_0, mr_at, up_xg, up_mr, narz_0, narz_1, i10, i01, i11, i00, ↓reduceIte, e10, e01, e50, e51, e20, e60, e70, e30, e40, Classical.not_not, not_true_eq_false, not_false_eq_true, x_range, m_outside, Int32.reduceToInt, x_state, m_raise0, m_raise1, up_mr0, ite_not, al_0, al_1, al_2, al_3, al_4, al_5, al_6, al_7, al_8, al_9, al_10, al_11, al_12, al_13, al_14, hg.1.s13]
  exact ⟨_, _, rfl, rfl, h.thm 0⟩
theorem ok_day {σ τ : Sig} {G : Gd} {w : Rw} (h : Rl (xg σ 8 G) (mr τ w)) : OKp (xg σ 8 G) (f11_day (xg σ 8 G)) (f12_day (mr τ w)) := by
  have hg := h.gp
  unfold f11_day f12_day
  simp only [nm_ap, bnd_ap, bns_ap, bnx_ap0, bnx_ap1, bnx_ap2, bnx_ap3, bnx_ap4, gz_0, gz_1, dvd_96, dvd_2, dvd_10000, rmd_96, rmd_8, xg_at, xg_0, mr_at, up_xg, up_mr, narz_0, narz_1, i10, i01, i11, i00, ↓reduceIte, e10, e01, e50, e51, e20, e60, e70, e30, e40, Classical.not_not, not_true_eq_false, not_false_eq_true, x_range, m_outside, Int32.reduceToInt, x_state, m_raise0, m_raise1, up_mr0, ite_not, x_today, m_today hg.1]
  exact ⟨_, _, rfl, rfl, h.thm 0⟩
theorem ok_isOpen {σ τ : Sig} {G : Gd} {w : Rw} (h : Rl (xg σ 8 G) (mr τ w)) : OKp (xg σ 8 G) (f11_isOpen (xg σ 8 G)) (f12_isOpen (mr τ w)) := by
  have hg := h.gp
  unfold f11_isOpen f12_isOpen
  simp only [nm_ap, bnd_ap, bns_ap, bnx_ap0, bnx_ap1, bnx_ap2, bnx_ap3, bnx_ap4, gz_0, gz_1, dvd_96, dvd_2, dvd_10000, rmd_96, rmd_8, xg_at, xg_0, mr_at, up_xg, up_mr, narz_0, narz_1, i10, i01, i11, i00, ↓reduceIte, e10, e01, e50, e51, e20, e60, e70, e30, e40, Classical.not_not, not_true_eq_false, not_false_eq_true, x_range, m_outside, Int32.reduceToInt, x_state, m_raise0, m_raise1, up_mr0, ite_not, al_0, al_1, al_2, al_3, al_4, al_5, al_6, al_7, al_8, al_9, al_10, al_11, al_12, al_13, al_14, hg.1.s4, x_tick, x_isOpen, m_openAt hg.1]
  rw [show G 1 0 - G 1 0 / 96 * 96 = Tk G from rfl]
  simp only [gz_ok (Opn_b G (Tk G))]
  exact ⟨_, _, rfl, rfl, h.thm 0⟩
theorem waits {G : Gd} {w : Rw} (hg : GP G w) (σ τ : Sig) : ∀ (fu k : Nat), k ≤ 96 → 96 < fu + k → ∃ r, f3_waitForOpening_b2 8 fu (Int32.ofNat k) (xg σ 8 G) = some r ∧ f12_ticksUntilOpen_b7 fu (Int32.ofNat k) (mr τ w) = some (r, mr τ w) := by
  intro fu
  induction fu with
  | zero => intro k h1 h2; omega
  | succ fu ih =>
    intro k h1 h2
    have ek := oN k (by omega)
    have e96 : (96 : Int32).toInt = 96 := rfl
    rw [f3_waitForOpening_b2, f12_ticksUntilOpen_b7]
    by_cases hk : k = 96
    · have c : (96 : Int32) ≤ Int32.ofNat k := by rw [Int32.le_iff_toInt_le, ek, e96]; omega
      rw [if_pos c, if_pos c]
      exact ⟨_, rfl, rfl⟩
    · have c : ¬ (96 : Int32) ≤ Int32.ofNat k := by rw [Int32.le_iff_toInt_le, ek, e96]; omega
      rw [if_neg c, if_neg c]
      simp only [nm_ap, bnd_ap, bns_ap, bnx_ap0, bnx_ap1, bnx_ap2, bnx_ap3, bnx_ap4, gz_0, gz_1, dvd_96, dvd_2, dvd_10000, rmd_96, rmd_8, xg_at, xg_0, mr_at, up_xg, up_mr, narz_0, narz_1, i10, i01, i11, i00, ↓reduceIte, e10, e01, e50, e51, e20, e60, e70, e30, e40, Classical.not_not, not_true_eq_false, not_false_eq_true, x_range, m_outside, Int32.reduceToInt, x_state, m_raise0, m_raise1, up_mr0, ite_not, al_0, al_1, al_2, al_3, al_4, al_5, al_6, al_7, al_8, al_9, al_10, al_11, al_12, al_13, al_14, hg.1.s4, x_isOpen, m_openAt hg.1, oN1]
      by_cases ho : Opn G (G 1 0 + Int32.ofNat k - (G 1 0 + Int32.ofNat k) / 96 * 96) = 0
      · rw [if_pos ho, if_pos ho]
        exact ih (k + 1) (by omega) (by omega)
      · rw [if_neg ho, if_neg ho]
        exact ⟨_, rfl, rfl⟩
theorem ok_ticksUntilOpen {σ τ : Sig} {G : Gd} {w : Rw} (h : Rl (xg σ 8 G) (mr τ w)) : OKp (xg σ 8 G) (f11_ticksUntilOpen (xg σ 8 G)) (f12_ticksUntilOpen (mr τ w)) := by
  have hg := h.gp
  obtain ⟨r, q1, q2⟩ := waits hg σ (up τ 0 0 0 0) FU 0 (by omega) (by unfold FU; omega)
  have q1' : f3_waitForOpening 8 (xg σ 8 G) = some r := q1
  have q2' : f12_ticksUntilOpen_b7 FU 0 (mr (up τ 0 0 0 0) w) = some (r, mr (up τ 0 0 0 0) w) := q2
  unfold f11_ticksUntilOpen f12_ticksUntilOpen
  simp only [nm_ap, bnd_ap, bns_ap, bnx_ap0, bnx_ap1, bnx_ap2, bnx_ap3, bnx_ap4, gz_0, gz_1, dvd_96, dvd_2, dvd_10000, rmd_96, rmd_8, xg_at, xg_0, mr_at, up_xg, up_mr, narz_0, narz_1, i10, i01, i11, i00, ↓reduceIte, e10, e01, e50, e51, e20, e60, e70, e30, e40, Classical.not_not, not_true_eq_false, not_false_eq_true, x_range, m_outside, Int32.reduceToInt, x_state, m_raise0, m_raise1, up_mr0, ite_not, q1', q2']
  exact ⟨_, _, rfl, rfl, h.thm 0⟩
theorem ok_isInSeason {σ τ : Sig} {G : Gd} {w : Rw} (a : Int32) (h : Rl (xg σ 8 G) (mr τ w)) : OKx [2] (f11_isInSeason a (xg σ 8 G)) (f12_isInSeason a (mr τ w)) := by
  have hg := h.gp
  have h0 := hg.2.1
  unfold f11_isInSeason f12_isInSeason
  simp only [nm_ap, up_mr0, x_bedq, m_noBed hg]
  by_cases c1 : 0 ≤ a.toInt ∧ a.toInt < (G 3 0).toInt
  · have am : 0 ≤ a.toInt ∧ a.toInt < 8 := by omega
    simp only [if_pos c1, nm_ap, bnd_ap, bns_ap, bnx_ap0, bnx_ap1, bnx_ap2, bnx_ap3, bnx_ap4, gz_0, gz_1, dvd_96, dvd_2, dvd_10000, rmd_96, rmd_8, xg_at, xg_0, mr_at, up_xg, up_mr, narz_0, narz_1, i10, i01, i11, i00, ↓reduceIte, e10, e01, e50, e51, e20, e60, e70, e30, e40, Classical.not_not, not_true_eq_false, not_false_eq_true, x_range, m_outside, Int32.reduceToInt, x_state, m_raise0, m_raise1, up_mr0, ite_not, x_today, x_season am, m_season hg.1 hg.2 _ c1]
    rcases Se_b G a.toInt.toNat (Td G) with c2 | c2
    · simp only [c2, nm_ap, bnd_ap, bns_ap, bnx_ap0, bnx_ap1, bnx_ap2, bnx_ap3, bnx_ap4, gz_0, gz_1, dvd_96, dvd_2, dvd_10000, rmd_96, rmd_8, xg_at, xg_0, mr_at, up_xg, up_mr, narz_0, narz_1, i10, i01, i11, i00, ↓reduceIte, e10, e01, e50, e51, e20, e60, e70, e30, e40, Classical.not_not, not_true_eq_false, not_false_eq_true, x_range, m_outside, Int32.reduceToInt, x_state, m_raise0, m_raise1, up_mr0, ite_not]
      exact OKx.good (h.thm 0) (by rw [th_mr, th_at])
    · simp only [c2, nm_ap, bnd_ap, bns_ap, bnx_ap0, bnx_ap1, bnx_ap2, bnx_ap3, bnx_ap4, gz_0, gz_1, dvd_96, dvd_2, dvd_10000, rmd_96, rmd_8, xg_at, xg_0, mr_at, up_xg, up_mr, narz_0, narz_1, i10, i01, i11, i00, ↓reduceIte, e10, e01, e50, e51, e20, e60, e70, e30, e40, Classical.not_not, not_true_eq_false, not_false_eq_true, x_range, m_outside, Int32.reduceToInt, x_state, m_raise0, m_raise1, up_mr0, ite_not]
      exact OKx.good (h.thm 0) (by rw [th_mr, th_at])
  · simp only [if_neg c1, nm_ap, bnd_ap, bns_ap, bnx_ap0, bnx_ap1, bnx_ap2, bnx_ap3, bnx_ap4, gz_0, gz_1, dvd_96, dvd_2, dvd_10000, rmd_96, rmd_8, xg_at, xg_0, mr_at, up_xg, up_mr, narz_0, narz_1, i10, i01, i11, i00, ↓reduceIte, e10, e01, e50, e51, e20, e60, e70, e30, e40, Classical.not_not, not_true_eq_false, not_false_eq_true, x_range, m_outside, Int32.reduceToInt, x_state, m_raise0, m_raise1, up_mr0, ite_not]
    exact OKx.bad 0 rfl (by decide) rfl (h.thm 0)
theorem ok_isReturned {σ τ : Sig} {G : Gd} {w : Rw} (a : Int32) (h : Rl (xg σ 8 G) (mr τ w)) : OKx [2] (f11_isReturned a (xg σ 8 G)) (f12_isReturned a (mr τ w)) := by
  have hg := h.gp
  have h0 := hg.2.1
  unfold f11_isReturned f12_isReturned f12_field
  simp only [nm_ap, up_mr0, x_pass, m_noPass hg]
  by_cases c1 : 0 ≤ a.toInt ∧ a.toInt < (G 4 0).toInt
  · have an : ((a.toInt.toNat : Nat) : Int) < (G 4 0).toInt := by omega
    have am : 0 ≤ a.toInt ∧ a.toInt < 30 := by omega
    have ax : 0 ≤ a.toInt ∧ a.toInt < ((30 : Nat) : Int) := am
    have h1 := hg.2.p an
    simp only [if_pos c1, nm_ap, bnd_ap, bns_ap, bnx_ap0, bnx_ap1, bnx_ap2, bnx_ap3, bnx_ap4, gz_0, gz_1, dvd_96, dvd_2, dvd_10000, rmd_96, rmd_8, xg_at, xg_0, mr_at, up_xg, up_mr, narz_0, narz_1, i10, i01, i11, i00, ↓reduceIte, e10, e01, e50, e51, e20, e60, e70, e30, e40, Classical.not_not, not_true_eq_false, not_false_eq_true, x_range, m_outside, Int32.reduceToInt, x_state, m_raise0, m_raise1, up_mr0, ite_not, ald_in ax, mo_6 am, hg.1.p6 an]
    rcases b01 (x := G 21 a.toInt.toNat) (by omega) with c2 | c2
    · simp only [c2, nm_ap, bnd_ap, bns_ap, bnx_ap0, bnx_ap1, bnx_ap2, bnx_ap3, bnx_ap4, gz_0, gz_1, dvd_96, dvd_2, dvd_10000, rmd_96, rmd_8, xg_at, xg_0, mr_at, up_xg, up_mr, narz_0, narz_1, i10, i01, i11, i00, ↓reduceIte, e10, e01, e50, e51, e20, e60, e70, e30, e40, Classical.not_not, not_true_eq_false, not_false_eq_true, x_range, m_outside, Int32.reduceToInt, x_state, m_raise0, m_raise1, up_mr0, ite_not]
      exact OKx.good (h.thm 0) (by rw [th_mr, th_at])
    · simp only [c2, nm_ap, bnd_ap, bns_ap, bnx_ap0, bnx_ap1, bnx_ap2, bnx_ap3, bnx_ap4, gz_0, gz_1, dvd_96, dvd_2, dvd_10000, rmd_96, rmd_8, xg_at, xg_0, mr_at, up_xg, up_mr, narz_0, narz_1, i10, i01, i11, i00, ↓reduceIte, e10, e01, e50, e51, e20, e60, e70, e30, e40, Classical.not_not, not_true_eq_false, not_false_eq_true, x_range, m_outside, Int32.reduceToInt, x_state, m_raise0, m_raise1, up_mr0, ite_not]
      exact OKx.good (h.thm 0) (by rw [th_mr, th_at])
  · simp only [if_neg c1, nm_ap, bnd_ap, bns_ap, bnx_ap0, bnx_ap1, bnx_ap2, bnx_ap3, bnx_ap4, gz_0, gz_1, dvd_96, dvd_2, dvd_10000, rmd_96, rmd_8, xg_at, xg_0, mr_at, up_xg, up_mr, narz_0, narz_1, i10, i01, i11, i00, ↓reduceIte, e10, e01, e50, e51, e20, e60, e70, e30, e40, Classical.not_not, not_true_eq_false, not_false_eq_true, x_range, m_outside, Int32.reduceToInt, x_state, m_raise0, m_raise1, up_mr0, ite_not]
    exact OKx.bad 0 rfl (by decide) rfl (h.thm 0)
theorem ok_isBlocked {σ τ : Sig} {G : Gd} {w : Rw} (a : Int32) (h : Rl (xg σ 8 G) (mr τ w)) : OKx [2] (f11_isBlocked a (xg σ 8 G)) (f12_isBlocked a (mr τ w)) := by
  have hg := h.gp
  have h0 := hg.2.1
  unfold f11_isBlocked f12_isBlocked
  simp only [nm_ap, up_mr0, x_cardq, m_noCard hg]
  by_cases c1 : 0 ≤ a.toInt ∧ a.toInt < (G 5 0).toInt
  · have an : ((a.toInt.toNat : Nat) : Int) < (G 5 0).toInt := by omega
    have am : 0 ≤ a.toInt ∧ a.toInt < 50 := by omega
    have ax : 0 ≤ a.toInt ∧ a.toInt < ((50 : Nat) : Int) := am
    have h1 := hg.2.k an
    simp only [if_pos c1, nm_ap, bnd_ap, bns_ap, bnx_ap0, bnx_ap1, bnx_ap2, bnx_ap3, bnx_ap4, gz_0, gz_1, dvd_96, dvd_2, dvd_10000, rmd_96, rmd_8, xg_at, xg_0, mr_at, up_xg, up_mr, narz_0, narz_1, i10, i01, i11, i00, ↓reduceIte, e10, e01, e50, e51, e20, e60, e70, e30, e40, Classical.not_not, not_true_eq_false, not_false_eq_true, x_range, m_outside, Int32.reduceToInt, x_state, m_raise0, m_raise1, up_mr0, ite_not, ald_in ax, m_blocked am, hg.1.k1 an]
    rcases b01 (x := G 28 a.toInt.toNat) (by omega) with c2 | c2
    · simp only [c2, nm_ap, bnd_ap, bns_ap, bnx_ap0, bnx_ap1, bnx_ap2, bnx_ap3, bnx_ap4, gz_0, gz_1, dvd_96, dvd_2, dvd_10000, rmd_96, rmd_8, xg_at, xg_0, mr_at, up_xg, up_mr, narz_0, narz_1, i10, i01, i11, i00, ↓reduceIte, e10, e01, e50, e51, e20, e60, e70, e30, e40, Classical.not_not, not_true_eq_false, not_false_eq_true, x_range, m_outside, Int32.reduceToInt, x_state, m_raise0, m_raise1, up_mr0, ite_not]
      exact OKx.good (h.thm 0) (by rw [th_mr, th_at])
    · simp only [c2, nm_ap, bnd_ap, bns_ap, bnx_ap0, bnx_ap1, bnx_ap2, bnx_ap3, bnx_ap4, gz_0, gz_1, dvd_96, dvd_2, dvd_10000, rmd_96, rmd_8, xg_at, xg_0, mr_at, up_xg, up_mr, narz_0, narz_1, i10, i01, i11, i00, ↓reduceIte, e10, e01, e50, e51, e20, e60, e70, e30, e40, Classical.not_not, not_true_eq_false, not_false_eq_true, x_range, m_outside, Int32.reduceToInt, x_state, m_raise0, m_raise1, up_mr0, ite_not]
      exact OKx.good (h.thm 0) (by rw [th_mr, th_at])
  · simp only [if_neg c1, nm_ap, bnd_ap, bns_ap, bnx_ap0, bnx_ap1, bnx_ap2, bnx_ap3, bnx_ap4, gz_0, gz_1, dvd_96, dvd_2, dvd_10000, rmd_96, rmd_8, xg_at, xg_0, mr_at, up_xg, up_mr, narz_0, narz_1, i10, i01, i11, i00, ↓reduceIte, e10, e01, e50, e51, e20, e60, e70, e30, e40, Classical.not_not, not_true_eq_false, not_false_eq_true, x_range, m_outside, Int32.reduceToInt, x_state, m_raise0, m_raise1, up_mr0, ite_not]
    exact OKx.bad 0 rfl (by decide) rfl (h.thm 0)
theorem ok_ticksUntilReady {σ τ : Sig} {G : Gd} {w : Rw} (a : Int32) (h : Rl (xg σ 8 G) (mr τ w)) : OKx [2] (f11_ticksUntilReady a (xg σ 8 G)) (f12_ticksUntilReady a (mr τ w)) := by
  have hg := h.gp
  have h0 := hg.2.1
  unfold f11_ticksUntilReady f12_ticksUntilReady
  simp only [nm_ap, up_mr0, x_pass, m_noPass hg]
  by_cases c1 : 0 ≤ a.toInt ∧ a.toInt < (G 4 0).toInt
  · have an : ((a.toInt.toNat : Nat) : Int) < (G 4 0).toInt := by omega
    have am : 0 ≤ a.toInt ∧ a.toInt < 30 := by omega
    have h1 := hg.2.p an
    have e1 : (G 24 a.toInt.toNat + G 0 6).toInt = (G 24 a.toInt.toNat).toInt + (G 0 6).toInt := tv_add rfl rfl (by omega)
    have e2 : (G 24 a.toInt.toNat + G 0 6 - G 1 0).toInt = (G 24 a.toInt.toNat).toInt + (G 0 6).toInt - (G 1 0).toInt := tv_sub e1 rfl (by omega)
    have em : (-1 : Int32).toInt = -1 := rfl
    have e0 : (0 : Int32).toInt = 0 := rfl
    simp only [if_pos c1, nm_ap, bnd_ap, bns_ap, bnx_ap0, bnx_ap1, bnx_ap2, bnx_ap3, bnx_ap4, gz_0, gz_1, dvd_96, dvd_2, dvd_10000, rmd_96, rmd_8, xg_at, xg_0, mr_at, up_xg, up_mr, narz_0, narz_1, i10, i01, i11, i00, ↓reduceIte, e10, e01, e50, e51, e20, e60, e70, e30, e40, Classical.not_not, not_true_eq_false, not_false_eq_true, x_range, m_outside, Int32.reduceToInt, x_state, m_raise0, m_raise1, up_mr0, ite_not, x_wait hg.2 c1, mo_9 am, hg.1.p9 an, al_0, al_1, al_2, al_3, al_4, al_5, al_6, al_7, al_8, al_9, al_10, al_11, al_12, al_13, al_14, hg.1.s4, hg.1.s6]
    unfold Wt
    by_cases c2 : (G 24 a.toInt.toNat).toInt = -1
    · have c2' : G 24 a.toInt.toNat = -1 := ti_ext (by rw [c2, em])
      rw [if_pos c2, if_pos c2']
      exact OKx.good (h.thm 0) (by rw [th_mr, th_at])
    · have c2' : ¬ G 24 a.toInt.toNat = -1 := fun e => c2 (by rw [e, em])
      rw [if_neg c2, if_neg c2']
      by_cases c3 : (G 1 0).toInt ≤ (G 24 a.toInt.toNat).toInt + (G 0 6).toInt
      · have c3' : (0 : Int32) ≤ G 24 a.toInt.toNat + G 0 6 - G 1 0 := by rw [Int32.le_iff_toInt_le, e2, e0]; omega
        rw [if_pos c3, if_pos c3']
        exact OKx.good (h.thm 0) (by rw [th_mr, th_at])
      · have c3' : ¬ (0 : Int32) ≤ G 24 a.toInt.toNat + G 0 6 - G 1 0 := by rw [Int32.le_iff_toInt_le, e2, e0]; omega
        rw [if_neg c3, if_neg c3']
        exact OKx.good (h.thm 0) (by rw [th_mr, th_at])
  · simp only [if_neg c1, nm_ap, bnd_ap, bns_ap, bnx_ap0, bnx_ap1, bnx_ap2, bnx_ap3, bnx_ap4, gz_0, gz_1, dvd_96, dvd_2, dvd_10000, rmd_96, rmd_8, xg_at, xg_0, mr_at, up_xg, up_mr, narz_0, narz_1, i10, i01, i11, i00, ↓reduceIte, e10, e01, e50, e51, e20, e60, e70, e30, e40, Classical.not_not, not_true_eq_false, not_false_eq_true, x_range, m_outside, Int32.reduceToInt, x_state, m_raise0, m_raise1, up_mr0, ite_not]
    exact OKx.bad 0 rfl (by decide) rfl (h.thm 0)
theorem ok_whyRefused {σ τ : Sig} {G : Gd} {w : Rw} (a b : Int32) (h : Rl (xg σ 8 G) (mr τ w)) : OKx [2] (f11_whyRefused a b (xg σ 8 G)) (f12_whyRefused a b (mr τ w)) := by
  have hg := h.gp
  unfold f11_whyRefused f12_whyRefused f12_whyRefused_b21
  simp only [nm_ap, up_mr0, x_cardq, m_noCard hg]
  by_cases c1 : 0 ≤ a.toInt ∧ a.toInt < (G 5 0).toInt
  · simp only [if_pos c1, nm_ap, bnd_ap, bns_ap, bnx_ap0, bnx_ap1, bnx_ap2, bnx_ap3, bnx_ap4, gz_0, gz_1, dvd_96, dvd_2, dvd_10000, rmd_96, rmd_8, xg_at, xg_0, mr_at, up_xg, up_mr, narz_0, narz_1, i10, i01, i11, i00, ↓reduceIte, e10, e01, e50, e51, e20, e60, e70, e30, e40, Classical.not_not, not_true_eq_false, not_false_eq_true, x_range, m_outside, Int32.reduceToInt, x_state, m_raise0, m_raise1, up_mr0, ite_not, x_bedq, m_noBed hg]
    by_cases c2 : 0 ≤ b.toInt ∧ b.toInt < (G 3 0).toInt
    · simp only [if_pos c2, nm_ap, bnd_ap, bns_ap, bnx_ap0, bnx_ap1, bnx_ap2, bnx_ap3, bnx_ap4, gz_0, gz_1, dvd_96, dvd_2, dvd_10000, rmd_96, rmd_8, xg_at, xg_0, mr_at, up_xg, up_mr, narz_0, narz_1, i10, i01, i11, i00, ↓reduceIte, e10, e01, e50, e51, e20, e60, e70, e30, e40, Classical.not_not, not_true_eq_false, not_false_eq_true, x_range, m_outside, Int32.reduceToInt, x_state, m_raise0, m_raise1, up_mr0, ite_not, x_refusal hg.2 c1 c2, m_refusal hg.1 hg.2 _ c1 c2]
      exact OKx.good (h.thm 0) (by rw [th_mr, th_at])
    · simp only [if_neg c2, nm_ap, bnd_ap, bns_ap, bnx_ap0, bnx_ap1, bnx_ap2, bnx_ap3, bnx_ap4, gz_0, gz_1, dvd_96, dvd_2, dvd_10000, rmd_96, rmd_8, xg_at, xg_0, mr_at, up_xg, up_mr, narz_0, narz_1, i10, i01, i11, i00, ↓reduceIte, e10, e01, e50, e51, e20, e60, e70, e30, e40, Classical.not_not, not_true_eq_false, not_false_eq_true, x_range, m_outside, Int32.reduceToInt, x_state, m_raise0, m_raise1, up_mr0, ite_not]
      exact OKx.bad 0 rfl (by decide) rfl (h.thm 0)
  · simp only [if_neg c1, nm_ap, bnd_ap, bns_ap, bnx_ap0, bnx_ap1, bnx_ap2, bnx_ap3, bnx_ap4, gz_0, gz_1, dvd_96, dvd_2, dvd_10000, rmd_96, rmd_8, xg_at, xg_0, mr_at, up_xg, up_mr, narz_0, narz_1, i10, i01, i11, i00, ↓reduceIte, e10, e01, e50, e51, e20, e60, e70, e30, e40, Classical.not_not, not_true_eq_false, not_false_eq_true, x_range, m_outside, Int32.reduceToInt, x_state, m_raise0, m_raise1, up_mr0, ite_not]
    exact OKx.bad 0 rfl (by decide) rfl (h.thm 0)
theorem ok_sign {σ τ : Sig} {G : Gd} {w : Rw} (a b : Int32) (h : Rl (xg σ 8 G) (mr τ w)) : OKx [2] (f11_sign a b (xg σ 8 G)) (f12_sign a b (mr τ w)) := by
  have hg := h.gp
  unfold f11_sign f12_sign
  simp only [nm_ap, up_mr0, x_cardq, m_noCard hg]
  by_cases c1 : 0 ≤ a.toInt ∧ a.toInt < (G 5 0).toInt
  · simp only [if_pos c1, nm_ap, bnd_ap, bns_ap, bnx_ap0, bnx_ap1, bnx_ap2, bnx_ap3, bnx_ap4, gz_0, gz_1, dvd_96, dvd_2, dvd_10000, rmd_96, rmd_8, xg_at, xg_0, mr_at, up_xg, up_mr, narz_0, narz_1, i10, i01, i11, i00, ↓reduceIte, e10, e01, e50, e51, e20, e60, e70, e30, e40, Classical.not_not, not_true_eq_false, not_false_eq_true, x_range, m_outside, Int32.reduceToInt, x_state, m_raise0, m_raise1, up_mr0, ite_not, x_bedq, m_noBed hg]
    by_cases c2 : 0 ≤ b.toInt ∧ b.toInt < (G 3 0).toInt
    · simp only [if_pos c2, nm_ap, bnd_ap, bns_ap, bnx_ap0, bnx_ap1, bnx_ap2, bnx_ap3, bnx_ap4, gz_0, gz_1, dvd_96, dvd_2, dvd_10000, rmd_96, rmd_8, xg_at, xg_0, mr_at, up_xg, up_mr, narz_0, narz_1, i10, i01, i11, i00, ↓reduceIte, e10, e01, e50, e51, e20, e60, e70, e30, e40, Classical.not_not, not_true_eq_false, not_false_eq_true, x_range, m_outside, Int32.reduceToInt, x_state, m_raise0, m_raise1, up_mr0, ite_not, x_refusal hg.2 c1 c2, m_refusal hg.1 hg.2 _ c1 c2]
      repeat' split
      all_goals exact OKx.good (h.thm 0) (by rw [th_mr, th_at])
    · simp only [if_neg c2, nm_ap, bnd_ap, bns_ap, bnx_ap0, bnx_ap1, bnx_ap2, bnx_ap3, bnx_ap4, gz_0, gz_1, dvd_96, dvd_2, dvd_10000, rmd_96, rmd_8, xg_at, xg_0, mr_at, up_xg, up_mr, narz_0, narz_1, i10, i01, i11, i00, ↓reduceIte, e10, e01, e50, e51, e20, e60, e70, e30, e40, Classical.not_not, not_true_eq_false, not_false_eq_true, x_range, m_outside, Int32.reduceToInt, x_state, m_raise0, m_raise1, up_mr0, ite_not]
      exact OKx.bad 0 rfl (by decide) rfl (h.thm 0)
  · simp only [if_neg c1, nm_ap, bnd_ap, bns_ap, bnx_ap0, bnx_ap1, bnx_ap2, bnx_ap3, bnx_ap4, gz_0, gz_1, dvd_96, dvd_2, dvd_10000, rmd_96, rmd_8, xg_at, xg_0, mr_at, up_xg, up_mr, narz_0, narz_1, i10, i01, i11, i00, ↓reduceIte, e10, e01, e50, e51, e20, e60, e70, e30, e40, Classical.not_not, not_true_eq_false, not_false_eq_true, x_range, m_outside, Int32.reduceToInt, x_state, m_raise0, m_raise1, up_mr0, ite_not]
    exact OKx.bad 0 rfl (by decide) rfl (h.thm 0)
theorem bedsq {G : Gd} {w : Rw} (hg : GP G w) (σ τ : Sig) {a : Int32} (c1 : 0 ≤ a.toInt ∧ a.toInt < (G 5 0).toInt) : ∀ (fu k : Nat) (s : Int32), k ≤ (G 3 0).toInt.toNat → (G 3 0).toInt.toNat < fu + k → ∃ r, f4_allowedBeds_b4 8 fu a s (Int32.ofNat k) (xg σ 8 G) = some r ∧ f12_bedsFor_b19 fu a s (Int32.ofNat k) (mr τ w) = some (r, mr τ w) := by
  have h0 := hg.2.1
  intro fu
  induction fu with
  | zero => intro k s h1 h2; omega
  | succ fu ih =>
    intro k s h1 h2
    have ek := oN k (by omega)
    rw [f4_allowedBeds_b4, f12_bedsFor_b19]
    simp only [nm_ap, bnd_ap, bns_ap, bnx_ap0, bnx_ap1, bnx_ap2, bnx_ap3, bnx_ap4, gz_0, gz_1, dvd_96, dvd_2, dvd_10000, rmd_96, rmd_8, xg_at, xg_0, mr_at, up_xg, up_mr, narz_0, narz_1, i10, i01, i11, i00, ↓reduceIte, e10, e01, e50, e51, e20, e60, e70, e30, e40, Classical.not_not, not_true_eq_false, not_false_eq_true, x_range, m_outside, Int32.reduceToInt, x_state, m_raise0, m_raise1, up_mr0, ite_not, al_0, al_1, al_2, al_3, al_4, al_5, al_6, al_7, al_8, al_9, al_10, al_11, al_12, al_13, al_14, hg.1.s1]
    by_cases hk : k = (G 3 0).toInt.toNat
    · have c : G 3 0 ≤ Int32.ofNat k := by rw [Int32.le_iff_toInt_le, ek]; omega
      rw [if_pos c, if_pos c]
      exact ⟨_, rfl, rfl⟩
    · have c : ¬ G 3 0 ≤ Int32.ofNat k := by rw [Int32.le_iff_toInt_le, ek]; omega
      have kb : 0 ≤ (Int32.ofNat k).toInt ∧ (Int32.ofNat k).toInt < (G 3 0).toInt := by rw [ek]; omega
      rw [if_neg c, if_neg c, x_refusal hg.2 c1 kb, m_refusal hg.1 hg.2 τ c1 kb]
      unfold f4_allowedBeds_b30 f12_bedsFor_b46
      simp only [nm_ap, bnd_ap, bns_ap, bnx_ap0, bnx_ap1, bnx_ap2, bnx_ap3, bnx_ap4, gz_0, gz_1, dvd_96, dvd_2, dvd_10000, rmd_96, rmd_8, xg_at, xg_0, mr_at, up_xg, up_mr, narz_0, narz_1, i10, i01, i11, i00, ↓reduceIte, e10, e01, e50, e51, e20, e60, e70, e30, e40, Classical.not_not, not_true_eq_false, not_false_eq_true, x_range, m_outside, Int32.reduceToInt, x_state, m_raise0, m_raise1, up_mr0, ite_not, oN1, Int32.or_zero]
      by_cases ho : Rf G a.toInt.toNat (Int32.ofNat k).toInt.toNat = 0
      · rw [if_pos ho, if_pos ho]
        exact ih (k + 1) _ (by omega) (by omega)
      · rw [if_neg ho, if_neg ho]
        exact ih (k + 1) _ (by omega) (by omega)
theorem ok_bedsFor {σ τ : Sig} {G : Gd} {w : Rw} (a : Int32) (h : Rl (xg σ 8 G) (mr τ w)) : OKx [2] (f11_bedsFor a (xg σ 8 G)) (f12_bedsFor a (mr τ w)) := by
  have hg := h.gp
  have h0 := hg.2.1
  unfold f11_bedsFor f12_bedsFor
  simp only [nm_ap, up_mr0, x_cardq, m_noCard hg]
  by_cases c1 : 0 ≤ a.toInt ∧ a.toInt < (G 5 0).toInt
  · obtain ⟨r, q1, q2⟩ := bedsq hg σ (up τ 0 0 0 0) c1 FU 0 0 (by omega) (by unfold FU; omega)
    have q1' : f4_allowedBeds 8 a (xg σ 8 G) = some r := q1
    have q2' : f12_bedsFor_b19 FU a 0 0 (mr (up τ 0 0 0 0) w) = some (r, mr (up τ 0 0 0 0) w) := q2
    simp only [if_pos c1, nm_ap, bnd_ap, bns_ap, bnx_ap0, bnx_ap1, bnx_ap2, bnx_ap3, bnx_ap4, gz_0, gz_1, dvd_96, dvd_2, dvd_10000, rmd_96, rmd_8, xg_at, xg_0, mr_at, up_xg, up_mr, narz_0, narz_1, i10, i01, i11, i00, ↓reduceIte, e10, e01, e50, e51, e20, e60, e70, e30, e40, Classical.not_not, not_true_eq_false, not_false_eq_true, x_range, m_outside, Int32.reduceToInt, x_state, m_raise0, m_raise1, up_mr0, ite_not, q1', q2']
    exact OKx.good (h.thm 0) (by rw [th_mr, th_at])
  · simp only [if_neg c1, nm_ap, bnd_ap, bns_ap, bnx_ap0, bnx_ap1, bnx_ap2, bnx_ap3, bnx_ap4, gz_0, gz_1, dvd_96, dvd_2, dvd_10000, rmd_96, rmd_8, xg_at, xg_0, mr_at, up_xg, up_mr, narz_0, narz_1, i10, i01, i11, i00, ↓reduceIte, e10, e01, e50, e51, e20, e60, e70, e30, e40, Classical.not_not, not_true_eq_false, not_false_eq_true, x_range, m_outside, Int32.reduceToInt, x_state, m_raise0, m_raise1, up_mr0, ite_not]
    exact OKx.bad 0 rfl (by decide) rfl (h.thm 0)
theorem ok_quote {σ τ : Sig} {G : Gd} {w : Rw} (a c d : Int32) (h : Rl (xg σ 8 G) (mr τ w)) : OKx [1] (f11_quote a c d (xg σ 8 G)) (f12_quote a c d (mr τ w)) := by
  have hg := h.gp
  have h0 := hg.2.1
  unfold f11_quote f12_quote f12_badPass f12_badPass_b37
  simp only [nm_ap, up_mr0, x_set, x_range, m_all hg.1, m_outside, Int32.reduceToInt, bnd_ap]
  by_cases c1 : 1 ≤ a.toInt ∧ a.toInt ≤ (SA G).toInt
  · by_cases c3 : 1 ≤ c.toInt ∧ c.toInt ≤ 14
    · by_cases c4 : 0 ≤ d.toInt ∧ d.toInt ≤ 1
      · have hs : 0 ≤ (G 2 0).toInt ∧ (G 2 0).toInt ≤ 5 := by omega
        simp only [if_pos c1, if_pos c3, if_pos c4, nm_ap, bnd_ap, bns_ap, bnx_ap0, bnx_ap1, bnx_ap2, bnx_ap3, bnx_ap4, gz_0, gz_1, dvd_96, dvd_2, dvd_10000, rmd_96, rmd_8, xg_at, xg_0, mr_at, up_xg, up_mr, narz_0, narz_1, i10, i01, i11, i00, ↓reduceIte, e10, e01, e50, e51, e20, e60, e70, e30, e40, Classical.not_not, not_true_eq_false, not_false_eq_true, x_range, m_outside, Int32.reduceToInt, x_state, m_raise0, m_raise1, up_mr0, ite_not, x_price hs, m_price hg.1.s0 (fun i hi => hg.1.i hi) hs (show d.toInt = 0 ∨ d.toInt = 1 by omega)]
        exact OKx.good (h.thm 0) (by rw [th_mr, th_at])
      · simp only [if_pos c1, if_pos c3, if_neg c4, nm_ap, bnd_ap, bns_ap, bnx_ap0, bnx_ap1, bnx_ap2, bnx_ap3, bnx_ap4, gz_0, gz_1, dvd_96, dvd_2, dvd_10000, rmd_96, rmd_8, xg_at, xg_0, mr_at, up_xg, up_mr, narz_0, narz_1, i10, i01, i11, i00, ↓reduceIte, e10, e01, e50, e51, e20, e60, e70, e30, e40, Classical.not_not, not_true_eq_false, not_false_eq_true, x_range, m_outside, Int32.reduceToInt, x_state, m_raise0, m_raise1, up_mr0, ite_not]
        exact OKx.bad 0 rfl (by decide) rfl (h.thm 0)
    · simp only [if_pos c1, if_neg c3, nm_ap, bnd_ap, bns_ap, bnx_ap0, bnx_ap1, bnx_ap2, bnx_ap3, bnx_ap4, gz_0, gz_1, dvd_96, dvd_2, dvd_10000, rmd_96, rmd_8, xg_at, xg_0, mr_at, up_xg, up_mr, narz_0, narz_1, i10, i01, i11, i00, ↓reduceIte, e10, e01, e50, e51, e20, e60, e70, e30, e40, Classical.not_not, not_true_eq_false, not_false_eq_true, x_range, m_outside, Int32.reduceToInt, x_state, m_raise0, m_raise1, up_mr0, ite_not]
      exact OKx.bad 0 rfl (by decide) rfl (h.thm 0)
  · simp only [if_neg c1, nm_ap, bnd_ap, bns_ap, bnx_ap0, bnx_ap1, bnx_ap2, bnx_ap3, bnx_ap4, gz_0, gz_1, dvd_96, dvd_2, dvd_10000, rmd_96, rmd_8, xg_at, xg_0, mr_at, up_xg, up_mr, narz_0, narz_1, i10, i01, i11, i00, ↓reduceIte, e10, e01, e50, e51, e20, e60, e70, e30, e40, Classical.not_not, not_true_eq_false, not_false_eq_true, x_range, m_outside, Int32.reduceToInt, x_state, m_raise0, m_raise1, up_mr0, ite_not]
    exact OKx.bad 0 rfl (by decide) rfl (h.thm 0)
theorem ok_fineFor {σ τ : Sig} {G : Gd} {w : Rw} (a b : Int32) (h : Rl (xg σ 8 G) (mr τ w)) : OKx [2, 1] (f11_fineFor a b (xg σ 8 G)) (f12_fineFor a b (mr τ w)) := by
  have hg := h.gp
  have h0 := hg.2.1
  unfold f11_fineFor f12_fineFor f12_fineFor_b25
  simp only [nm_ap, up_mr0, x_bedq, m_noBed hg]
  by_cases c1 : 0 ≤ a.toInt ∧ a.toInt < (G 3 0).toInt
  · by_cases c2 : 1 ≤ b.toInt ∧ b.toInt ≤ 9
    · simp only [if_pos c1, if_pos c2, nm_ap, bnd_ap, bns_ap, bnx_ap0, bnx_ap1, bnx_ap2, bnx_ap3, bnx_ap4, gz_0, gz_1, dvd_96, dvd_2, dvd_10000, rmd_96, rmd_8, xg_at, xg_0, mr_at, up_xg, up_mr, narz_0, narz_1, i10, i01, i11, i00, ↓reduceIte, e10, e01, e50, e51, e20, e60, e70, e30, e40, Classical.not_not, not_true_eq_false, not_false_eq_true, x_range, m_outside, Int32.reduceToInt, x_state, m_raise0, m_raise1, up_mr0, ite_not, x_fine (show 0 ≤ a.toInt ∧ a.toInt < 8 by omega), m_fine hg.1 hg.2 _ c1]
      exact OKx.good (h.thm 0) (by rw [th_mr, th_at])
    · simp only [if_pos c1, if_neg c2, nm_ap, bnd_ap, bns_ap, bnx_ap0, bnx_ap1, bnx_ap2, bnx_ap3, bnx_ap4, gz_0, gz_1, dvd_96, dvd_2, dvd_10000, rmd_96, rmd_8, xg_at, xg_0, mr_at, up_xg, up_mr, narz_0, narz_1, i10, i01, i11, i00, ↓reduceIte, e10, e01, e50, e51, e20, e60, e70, e30, e40, Classical.not_not, not_true_eq_false, not_false_eq_true, x_range, m_outside, Int32.reduceToInt, x_state, m_raise0, m_raise1, up_mr0, ite_not]
      exact OKx.bad 1 rfl (by decide) rfl (h.thm 0)
  · simp only [if_neg c1, nm_ap, bnd_ap, bns_ap, bnx_ap0, bnx_ap1, bnx_ap2, bnx_ap3, bnx_ap4, gz_0, gz_1, dvd_96, dvd_2, dvd_10000, rmd_96, rmd_8, xg_at, xg_0, mr_at, up_xg, up_mr, narz_0, narz_1, i10, i01, i11, i00, ↓reduceIte, e10, e01, e50, e51, e20, e60, e70, e30, e40, Classical.not_not, not_true_eq_false, not_false_eq_true, x_range, m_outside, Int32.reduceToInt, x_state, m_raise0, m_raise1, up_mr0, ite_not]
    exact OKx.bad 0 rfl (by decide) rfl (h.thm 0)
