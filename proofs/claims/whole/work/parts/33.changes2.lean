/-! THE MATHEMATICS, 14: more changes -/
theorem ok_extend {σ τ : Sig} {G : Gd} {w : Rw} (a b : Int32) (h : Rl (xg σ 8 G) (mr τ w)) : OKx [2, 1, 3] (f11_extend a b (xg σ 8 G)) (f12_extend a b (mr τ w)) := by
  have hg := h.gp
  have h0 := hg.2.1
  unfold f11_extend f12_extend
  simp only [nm_ap, up_mr0, x_pass, m_noPass hg]
  by_cases c1 : 0 ≤ a.toInt ∧ a.toInt < (G 4 0).toInt
  · by_cases c2 : 1 ≤ b.toInt ∧ b.toInt ≤ 13
    · have an : ((a.toInt.toNat : Nat) : Int) < (G 4 0).toInt := by omega
      have a3 : 0 ≤ a.toInt ∧ a.toInt < 30 := by omega
      have a30 : 0 ≤ a.toInt ∧ a.toInt < ((30 : Nat) : Int) := a3
      have h1 := hg.2.p an
      have ed : (G 17 a.toInt.toNat + b).toInt = (G 17 a.toInt.toNat).toInt + b.toInt := tv_add rfl rfl (by omega)
      simp only [if_pos c1, if_pos c2, nm_ap, bnd_ap, bns_ap, bnx_ap0, bnx_ap1, bnx_ap2, bnx_ap3, bnx_ap4, gz_0, gz_1, dvd_96, dvd_2, dvd_10000, rmd_96, rmd_8, xg_at, xg_0, mr_at, up_xg, up_mr, narz_0, narz_1, i10, i01, i11, i00, ↓reduceIte, e10, e01, e50, e51, e20, e60, e70, e30, e40, Classical.not_not, not_true_eq_false, not_false_eq_true, x_range, m_outside, Int32.reduceToInt, x_state, m_raise0, m_raise1, up_mr0, ite_not, x_canChange hg.2 c1, m_isOver hg.1 hg.2 c1]
      by_cases c3 : CcP G a.toInt.toNat
      · simp only [if_pos c3, nm_ap, bnd_ap, bns_ap, bnx_ap0, bnx_ap1, bnx_ap2, bnx_ap3, bnx_ap4, gz_0, gz_1, dvd_96, dvd_2, dvd_10000, rmd_96, rmd_8, xg_at, xg_0, mr_at, up_xg, up_mr, narz_0, narz_1, i10, i01, i11, i00, ↓reduceIte, e10, e01, e50, e51, e20, e60, e70, e30, e40, Classical.not_not, not_true_eq_false, not_false_eq_true, x_range, m_outside, Int32.reduceToInt, x_state, m_raise0, m_raise1, up_mr0, ite_not, ald_in a30, mo_2 a3, hg.1.p2 an, Int32.lt_iff_toInt_lt, Int32.le_iff_toInt_le, ed]
        unfold f11_extend_b47 f12_extend_b47 f12_extend_b52
        by_cases c4 : (G 17 a.toInt.toNat).toInt + b.toInt ≤ 14
        · obtain ⟨σ1, τ1, q1, q2, e0, hput⟩ := rem_ok (h.thm 0)
          have c4' : ¬ 14 < (G 17 a.toInt.toNat).toInt + b.toInt := by omega
          have hx := x_newPrice (σ := σ1) (n := 8) hg.2 (set := G 15 a.toInt.toNat) (days := G 17 a.toInt.toNat + b) c1 (by rw [ed]; omega)
          rw [p2_self] at hx
          have hm := m_renew hg.1 hg.2 τ1 (set := G 15 a.toInt.toNat) (days := G 17 a.toInt.toNat + b) c1
          simp only [if_pos c4, if_neg c4', nm_ap, bnd_ap, bns_ap, bnx_ap0, bnx_ap1, bnx_ap2, bnx_ap3, bnx_ap4, gz_0, gz_1, dvd_96, dvd_2, dvd_10000, rmd_96, rmd_8, xg_at, xg_0, mr_at, up_xg, up_mr, narz_0, narz_1, i10, i01, i11, i00, ↓reduceIte, e10, e01, e50, e51, e20, e60, e70, e30, e40, Classical.not_not, not_true_eq_false, not_false_eq_true, x_range, m_outside, Int32.reduceToInt, x_state, m_raise0, m_raise1, up_mr0, ite_not, q1, q2, ald_in a30, ast_in a30, hx, mo_0 a3, hg.1.p0 an, mo_2 a3, hg.1.p2 an, hm]
          exact OKx.good (hput _ _ ⟨rg_ren hg.1 an _ _ _ hg.2.bd, iv_ren hg.2 an (by rw [ed]; omega)⟩) (by rw [th_mr, e0, th_at])
        · have c4' : 14 < (G 17 a.toInt.toNat).toInt + b.toInt := by omega
          simp only [if_neg c4, if_pos c4', nm_ap, bnd_ap, bns_ap, bnx_ap0, bnx_ap1, bnx_ap2, bnx_ap3, bnx_ap4, gz_0, gz_1, dvd_96, dvd_2, dvd_10000, rmd_96, rmd_8, xg_at, xg_0, mr_at, up_xg, up_mr, narz_0, narz_1, i10, i01, i11, i00, ↓reduceIte, e10, e01, e50, e51, e20, e60, e70, e30, e40, Classical.not_not, not_true_eq_false, not_false_eq_true, x_range, m_outside, Int32.reduceToInt, x_state, m_raise0, m_raise1, up_mr0, ite_not]
          exact OKx.bad 2 rfl (by decide) rfl (h.thm 0)
      · simp only [if_neg c3, nm_ap, bnd_ap, bns_ap, bnx_ap0, bnx_ap1, bnx_ap2, bnx_ap3, bnx_ap4, gz_0, gz_1, dvd_96, dvd_2, dvd_10000, rmd_96, rmd_8, xg_at, xg_0, mr_at, up_xg, up_mr, narz_0, narz_1, i10, i01, i11, i00, ↓reduceIte, e10, e01, e50, e51, e20, e60, e70, e30, e40, Classical.not_not, not_true_eq_false, not_false_eq_true, x_range, m_outside, Int32.reduceToInt, x_state, m_raise0, m_raise1, up_mr0, ite_not]
        unfold f12_extend_b47 f12_extend_b52
        simp only [nm_ap, bnd_ap, bns_ap, bnx_ap0, bnx_ap1, bnx_ap2, bnx_ap3, bnx_ap4, gz_0, gz_1, dvd_96, dvd_2, dvd_10000, rmd_96, rmd_8, xg_at, xg_0, mr_at, up_xg, up_mr, narz_0, narz_1, i10, i01, i11, i00, ↓reduceIte, e10, e01, e50, e51, e20, e60, e70, e30, e40, Classical.not_not, not_true_eq_false, not_false_eq_true, x_range, m_outside, Int32.reduceToInt, x_state, m_raise0, m_raise1, up_mr0, ite_not]
        exact OKx.bad 2 rfl (by decide) rfl (h.thm 0)
    · simp only [if_pos c1, if_neg c2, nm_ap, bnd_ap, bns_ap, bnx_ap0, bnx_ap1, bnx_ap2, bnx_ap3, bnx_ap4, gz_0, gz_1, dvd_96, dvd_2, dvd_10000, rmd_96, rmd_8, xg_at, xg_0, mr_at, up_xg, up_mr, narz_0, narz_1, i10, i01, i11, i00, ↓reduceIte, e10, e01, e50, e51, e20, e60, e70, e30, e40, Classical.not_not, not_true_eq_false, not_false_eq_true, x_range, m_outside, Int32.reduceToInt, x_state, m_raise0, m_raise1, up_mr0, ite_not]
      exact OKx.bad 1 rfl (by decide) rfl (h.thm 0)
  · simp only [if_neg c1, nm_ap, bnd_ap, bns_ap, bnx_ap0, bnx_ap1, bnx_ap2, bnx_ap3, bnx_ap4, gz_0, gz_1, dvd_96, dvd_2, dvd_10000, rmd_96, rmd_8, xg_at, xg_0, mr_at, up_xg, up_mr, narz_0, narz_1, i10, i01, i11, i00, ↓reduceIte, e10, e01, e50, e51, e20, e60, e70, e30, e40, Classical.not_not, not_true_eq_false, not_false_eq_true, x_range, m_outside, Int32.reduceToInt, x_state, m_raise0, m_raise1, up_mr0, ite_not]
    exact OKx.bad 0 rfl (by decide) rfl (h.thm 0)
theorem ok_addScent {σ τ : Sig} {G : Gd} {w : Rw} (a b : Int32) (h : Rl (xg σ 8 G) (mr τ w)) : OKx [2, 3] (f11_addScent a b (xg σ 8 G)) (f12_addScent a b (mr τ w)) := by
  have hg := h.gp
  have h0 := hg.2.1
  unfold f11_addScent f12_addScent
  simp only [nm_ap, up_mr0, x_pass, m_noPass hg]
  by_cases c1 : 0 ≤ a.toInt ∧ a.toInt < (G 4 0).toInt
  · simp only [if_pos c1, nm_ap, bnd_ap, bns_ap, bnx_ap0, bnx_ap1, bnx_ap2, bnx_ap3, bnx_ap4, gz_0, gz_1, dvd_96, dvd_2, dvd_10000, rmd_96, rmd_8, xg_at, xg_0, mr_at, up_xg, up_mr, narz_0, narz_1, i10, i01, i11, i00, ↓reduceIte, e10, e01, e50, e51, e20, e60, e70, e30, e40, Classical.not_not, not_true_eq_false, not_false_eq_true, x_range, m_outside, Int32.reduceToInt, x_state, m_raise0, m_raise1, up_mr0, ite_not, x_scentq, m_noScent hg]
    by_cases c2 : 0 ≤ b.toInt ∧ b.toInt < (G 2 0).toInt
    · have an : ((a.toInt.toNat : Nat) : Int) < (G 4 0).toInt := by omega
      have a3 : 0 ≤ a.toInt ∧ a.toInt < 30 := by omega
      have a30 : 0 ≤ a.toInt ∧ a.toInt < ((30 : Nat) : Int) := a3
      have h1 := hg.2.p an
      simp only [if_pos c2, nm_ap, bnd_ap, bns_ap, bnx_ap0, bnx_ap1, bnx_ap2, bnx_ap3, bnx_ap4, gz_0, gz_1, dvd_96, dvd_2, dvd_10000, rmd_96, rmd_8, xg_at, xg_0, mr_at, up_xg, up_mr, narz_0, narz_1, i10, i01, i11, i00, ↓reduceIte, e10, e01, e50, e51, e20, e60, e70, e30, e40, Classical.not_not, not_true_eq_false, not_false_eq_true, x_range, m_outside, Int32.reduceToInt, x_state, m_raise0, m_raise1, up_mr0, ite_not, x_canChange hg.2 c1, m_isOver hg.1 hg.2 c1]
      by_cases c3 : CcP G a.toInt.toNat
      · simp only [if_pos c3, nm_ap, bnd_ap, bns_ap, bnx_ap0, bnx_ap1, bnx_ap2, bnx_ap3, bnx_ap4, gz_0, gz_1, dvd_96, dvd_2, dvd_10000, rmd_96, rmd_8, xg_at, xg_0, mr_at, up_xg, up_mr, narz_0, narz_1, i10, i01, i11, i00, ↓reduceIte, e10, e01, e50, e51, e20, e60, e70, e30, e40, Classical.not_not, not_true_eq_false, not_false_eq_true, x_range, m_outside, Int32.reduceToInt, x_state, m_raise0, m_raise1, up_mr0, ite_not, x_hasScent a3, mo_0 a3, hg.1.p0 an]
        unfold f11_addScent_b41
        rcases and1 (G 15 a.toInt.toNat >>> (b &&& 31)) with c4 | c4
        · obtain ⟨σ1, τ1, q1, q2, e0, hput⟩ := rem_ok (h.thm 0)
          have hx := x_newPrice (σ := σ1) (n := 8) hg.2 (set := G 15 a.toInt.toNat ||| (1 : Int32) <<< (b &&& 31)) (days := G 17 a.toInt.toNat) c1 (by omega)
          rw [p2_same (G := p2 G 15 a.toInt.toNat (G 15 a.toInt.toNat ||| (1 : Int32) <<< (b &&& 31))) (c := 17) (j := a.toInt.toNat) (v := G 17 a.toInt.toNat) rfl] at hx
          have hm := m_renew hg.1 hg.2 τ1 (set := G 15 a.toInt.toNat ||| (1 : Int32) <<< (b &&& 31)) (days := G 17 a.toInt.toNat) c1
          unfold f12_addScent_b49
          simp only [c4, nm_ap, bnd_ap, bns_ap, bnx_ap0, bnx_ap1, bnx_ap2, bnx_ap3, bnx_ap4, gz_0, gz_1, dvd_96, dvd_2, dvd_10000, rmd_96, rmd_8, xg_at, xg_0, mr_at, up_xg, up_mr, narz_0, narz_1, i10, i01, i11, i00, ↓reduceIte, e10, e01, e50, e51, e20, e60, e70, e30, e40, Classical.not_not, not_true_eq_false, not_false_eq_true, x_range, m_outside, Int32.reduceToInt, x_state, m_raise0, m_raise1, up_mr0, ite_not, q1, q2, ald_in a30, ast_in a30, hx, mo_0 a3, hg.1.p0 an, mo_2 a3, hg.1.p2 an, hm]
          exact OKx.good (hput _ _ ⟨rg_ren hg.1 an _ _ _ hg.2.bd, iv_ren hg.2 an (by omega)⟩) (by rw [th_mr, e0, th_at])
        · unfold f12_addScent_b44 f12_addScent_b49
          simp only [c4, nm_ap, bnd_ap, bns_ap, bnx_ap0, bnx_ap1, bnx_ap2, bnx_ap3, bnx_ap4, gz_0, gz_1, dvd_96, dvd_2, dvd_10000, rmd_96, rmd_8, xg_at, xg_0, mr_at, up_xg, up_mr, narz_0, narz_1, i10, i01, i11, i00, ↓reduceIte, e10, e01, e50, e51, e20, e60, e70, e30, e40, Classical.not_not, not_true_eq_false, not_false_eq_true, x_range, m_outside, Int32.reduceToInt, x_state, m_raise0, m_raise1, up_mr0, ite_not]
          exact OKx.bad 1 rfl (by decide) rfl (h.thm 0)
      · unfold f12_addScent_b44 f12_addScent_b49
        simp only [if_neg c3, nm_ap, bnd_ap, bns_ap, bnx_ap0, bnx_ap1, bnx_ap2, bnx_ap3, bnx_ap4, gz_0, gz_1, dvd_96, dvd_2, dvd_10000, rmd_96, rmd_8, xg_at, xg_0, mr_at, up_xg, up_mr, narz_0, narz_1, i10, i01, i11, i00, ↓reduceIte, e10, e01, e50, e51, e20, e60, e70, e30, e40, Classical.not_not, not_true_eq_false, not_false_eq_true, x_range, m_outside, Int32.reduceToInt, x_state, m_raise0, m_raise1, up_mr0, ite_not]
        exact OKx.bad 1 rfl (by decide) rfl (h.thm 0)
    · simp only [if_neg c2, nm_ap, bnd_ap, bns_ap, bnx_ap0, bnx_ap1, bnx_ap2, bnx_ap3, bnx_ap4, gz_0, gz_1, dvd_96, dvd_2, dvd_10000, rmd_96, rmd_8, xg_at, xg_0, mr_at, up_xg, up_mr, narz_0, narz_1, i10, i01, i11, i00, ↓reduceIte, e10, e01, e50, e51, e20, e60, e70, e30, e40, Classical.not_not, not_true_eq_false, not_false_eq_true, x_range, m_outside, Int32.reduceToInt, x_state, m_raise0, m_raise1, up_mr0, ite_not]
      exact OKx.bad 0 rfl (by decide) rfl (h.thm 0)
  · simp only [if_neg c1, nm_ap, bnd_ap, bns_ap, bnx_ap0, bnx_ap1, bnx_ap2, bnx_ap3, bnx_ap4, gz_0, gz_1, dvd_96, dvd_2, dvd_10000, rmd_96, rmd_8, xg_at, xg_0, mr_at, up_xg, up_mr, narz_0, narz_1, i10, i01, i11, i00, ↓reduceIte, e10, e01, e50, e51, e20, e60, e70, e30, e40, Classical.not_not, not_true_eq_false, not_false_eq_true, x_range, m_outside, Int32.reduceToInt, x_state, m_raise0, m_raise1, up_mr0, ite_not]
    exact OKx.bad 0 rfl (by decide) rfl (h.thm 0)
theorem ok_reportLost {σ τ : Sig} {G : Gd} {w : Rw} (a : Int32) (h : Rl (xg σ 8 G) (mr τ w)) : OKx [2, 3] (f11_reportLost a (xg σ 8 G)) (f12_reportLost a (mr τ w)) := by
  have hg := h.gp
  have h0 := hg.2.1
  unfold f11_reportLost f12_reportLost
  simp only [nm_ap, up_mr0, x_pass, m_noPass hg]
  by_cases c1 : 0 ≤ a.toInt ∧ a.toInt < (G 4 0).toInt
  · have an : ((a.toInt.toNat : Nat) : Int) < (G 4 0).toInt := by omega
    have a3 : 0 ≤ a.toInt ∧ a.toInt < 30 := by omega
    have h1 := hg.2.p an
    unfold f12_reportLost_b29
    simp only [if_pos c1, nm_ap, bnd_ap, bns_ap, bnx_ap0, bnx_ap1, bnx_ap2, bnx_ap3, bnx_ap4, gz_0, gz_1, dvd_96, dvd_2, dvd_10000, rmd_96, rmd_8, xg_at, xg_0, mr_at, up_xg, up_mr, narz_0, narz_1, i10, i01, i11, i00, ↓reduceIte, e10, e01, e50, e51, e20, e60, e70, e30, e40, Classical.not_not, not_true_eq_false, not_false_eq_true, x_range, m_outside, Int32.reduceToInt, x_state, m_raise0, m_raise1, up_mr0, ite_not, x_hasCard a3, mo_5 a3, hg.1.p5 an]
    by_cases c2 : (G 20 a.toInt.toNat).toInt = -1
    · have p2 : G 20 a.toInt.toNat = -1 := ti_ext (by rw [c2]; rfl)
      simp only [if_pos c2, if_pos p2, nm_ap, bnd_ap, bns_ap, bnx_ap0, bnx_ap1, bnx_ap2, bnx_ap3, bnx_ap4, gz_0, gz_1, dvd_96, dvd_2, dvd_10000, rmd_96, rmd_8, xg_at, xg_0, mr_at, up_xg, up_mr, narz_0, narz_1, i10, i01, i11, i00, ↓reduceIte, e10, e01, e50, e51, e20, e60, e70, e30, e40, Classical.not_not, not_true_eq_false, not_false_eq_true, x_range, m_outside, Int32.reduceToInt, x_state, m_raise0, m_raise1, up_mr0, ite_not]
      exact OKx.bad 1 rfl (by decide) rfl (h.thm 0)
    · have n2 : ¬ G 20 a.toInt.toNat = -1 := fun e => c2 (by rw [e]; rfl)
      obtain ⟨σ1, τ1, q1, q2, e0, hput⟩ := rem_ok (h.thm 0)
      simp only [if_neg c2, if_neg n2, nm_ap, bnd_ap, bns_ap, bnx_ap0, bnx_ap1, bnx_ap2, bnx_ap3, bnx_ap4, gz_0, gz_1, dvd_96, dvd_2, dvd_10000, rmd_96, rmd_8, xg_at, xg_0, mr_at, up_xg, up_mr, narz_0, narz_1, i10, i01, i11, i00, ↓reduceIte, e10, e01, e50, e51, e20, e60, e70, e30, e40, Classical.not_not, not_true_eq_false, not_false_eq_true, x_range, m_outside, Int32.reduceToInt, x_state, m_raise0, m_raise1, up_mr0, ite_not, q1, q2]
      rw [x_block a3 (by omega) (by omega), m_lose a3 (by rw [hg.1.p5 an]; omega)]
      simp only [nm_ap, bnd_ap, bns_ap, bnx_ap0, bnx_ap1, bnx_ap2, bnx_ap3, bnx_ap4, gz_0, gz_1, dvd_96, dvd_2, dvd_10000, rmd_96, rmd_8, xg_at, xg_0, mr_at, up_xg, up_mr, narz_0, narz_1, i10, i01, i11, i00, ↓reduceIte, e10, e01, e50, e51, e20, e60, e70, e30, e40, Classical.not_not, not_true_eq_false, not_false_eq_true, x_range, m_outside, Int32.reduceToInt, x_state, m_raise0, m_raise1, up_mr0, ite_not, hg.1.p5 an]
      exact OKx.good (hput _ _ ⟨rg_los hg.1 an (by omega) hg.2.bd, iv_los hg.2 an (by omega)⟩) (by rw [th_mr, e0, th_at])
  · simp only [if_neg c1, nm_ap, bnd_ap, bns_ap, bnx_ap0, bnx_ap1, bnx_ap2, bnx_ap3, bnx_ap4, gz_0, gz_1, dvd_96, dvd_2, dvd_10000, rmd_96, rmd_8, xg_at, xg_0, mr_at, up_xg, up_mr, narz_0, narz_1, i10, i01, i11, i00, ↓reduceIte, e10, e01, e50, e51, e20, e60, e70, e30, e40, Classical.not_not, not_true_eq_false, not_false_eq_true, x_range, m_outside, Int32.reduceToInt, x_state, m_raise0, m_raise1, up_mr0, ite_not]
    exact OKx.bad 0 rfl (by decide) rfl (h.thm 0)
theorem ok_replaceCard {σ τ : Sig} {G : Gd} {w : Rw} (a : Int32) (h : Rl (xg σ 8 G) (mr τ w)) : OKx [2, 3] (f11_replaceCard a (xg σ 8 G)) (f12_replaceCard a (mr τ w)) := by
  have hg := h.gp
  have h0 := hg.2.1
  unfold f11_replaceCard f12_replaceCard
  simp only [nm_ap, up_mr0, x_pass, m_noPass hg]
  by_cases c1 : 0 ≤ a.toInt ∧ a.toInt < (G 4 0).toInt
  · have an : ((a.toInt.toNat : Nat) : Int) < (G 4 0).toInt := by omega
    have a3 : 0 ≤ a.toInt ∧ a.toInt < 30 := by omega
    simp only [if_pos c1, nm_ap, bnd_ap, bns_ap, bnx_ap0, bnx_ap1, bnx_ap2, bnx_ap3, bnx_ap4, gz_0, gz_1, dvd_96, dvd_2, dvd_10000, rmd_96, rmd_8, xg_at, xg_0, mr_at, up_xg, up_mr, narz_0, narz_1, i10, i01, i11, i00, ↓reduceIte, e10, e01, e50, e51, e20, e60, e70, e30, e40, Classical.not_not, not_true_eq_false, not_false_eq_true, x_range, m_outside, Int32.reduceToInt, x_state, m_raise0, m_raise1, up_mr0, ite_not, x_canReplace a3, m_cannotReplace hg.1 hg.2 c1]
    by_cases c2 : CrP G a.toInt.toNat
    · obtain ⟨σ1, τ1, q1, q2, e0, hput⟩ := rem_ok (h.thm 0)
      simp only [if_pos c2, nm_ap, bnd_ap, bns_ap, bnx_ap0, bnx_ap1, bnx_ap2, bnx_ap3, bnx_ap4, gz_0, gz_1, dvd_96, dvd_2, dvd_10000, rmd_96, rmd_8, xg_at, xg_0, mr_at, up_xg, up_mr, narz_0, narz_1, i10, i01, i11, i00, ↓reduceIte, e10, e01, e50, e51, e20, e60, e70, e30, e40, Classical.not_not, not_true_eq_false, not_false_eq_true, x_range, m_outside, Int32.reduceToInt, x_state, m_raise0, m_raise1, up_mr0, ite_not, q1, q2]
      rw [x_card a3 (by omega), m_card a3 (by rw [hg.1.s3]; omega)]
      simp only [nm_ap, bnd_ap, bns_ap, bnx_ap0, bnx_ap1, bnx_ap2, bnx_ap3, bnx_ap4, gz_0, gz_1, dvd_96, dvd_2, dvd_10000, rmd_96, rmd_8, xg_at, xg_0, mr_at, up_xg, up_mr, narz_0, narz_1, i10, i01, i11, i00, ↓reduceIte, e10, e01, e50, e51, e20, e60, e70, e30, e40, Classical.not_not, not_true_eq_false, not_false_eq_true, x_range, m_outside, Int32.reduceToInt, x_state, m_raise0, m_raise1, up_mr0, ite_not, hg.1.s3]
      exact OKx.good (hput _ _ ⟨rg_crd hg.1 an (by omega) (by omega) _ hg.2.bd, iv_crd hg.2 an (by omega) (by omega) (by omega)⟩) (by rw [th_mr, e0, th_at])
    · simp only [if_neg c2, nm_ap, bnd_ap, bns_ap, bnx_ap0, bnx_ap1, bnx_ap2, bnx_ap3, bnx_ap4, gz_0, gz_1, dvd_96, dvd_2, dvd_10000, rmd_96, rmd_8, xg_at, xg_0, mr_at, up_xg, up_mr, narz_0, narz_1, i10, i01, i11, i00, ↓reduceIte, e10, e01, e50, e51, e20, e60, e70, e30, e40, Classical.not_not, not_true_eq_false, not_false_eq_true, x_range, m_outside, Int32.reduceToInt, x_state, m_raise0, m_raise1, up_mr0, ite_not]
      exact OKx.bad 1 rfl (by decide) rfl (h.thm 0)
  · simp only [if_neg c1, nm_ap, bnd_ap, bns_ap, bnx_ap0, bnx_ap1, bnx_ap2, bnx_ap3, bnx_ap4, gz_0, gz_1, dvd_96, dvd_2, dvd_10000, rmd_96, rmd_8, xg_at, xg_0, mr_at, up_xg, up_mr, narz_0, narz_1, i10, i01, i11, i00, ↓reduceIte, e10, e01, e50, e51, e20, e60, e70, e30, e40, Classical.not_not, not_true_eq_false, not_false_eq_true, x_range, m_outside, Int32.reduceToInt, x_state, m_raise0, m_raise1, up_mr0, ite_not]
    exact OKx.bad 0 rfl (by decide) rfl (h.thm 0)
-- a pass is given back
/-- how much of the refund pays fines -/
def fpd (G : Gd) (p : Nat) : Int32 := if G 26 p < Rd G p then G 26 p else Rd G p
def Gbck (G : Gd) (p : Nat) : Gd := p2 (if (G 20 p).toInt = -1 then Gbk G p (Rd G p) (fpd G p) else Glos (Gbk G p (Rd G p) (fpd G p)) p) 21 p 1
def Wbck (G : Gd) (w : Rw) (p : Nat) : Rw := upd (if (G 20 p).toInt = -1 then Wbk w p (Rd G p) (fpd G p) else Wlos (Wbk w p (Rd G p) (fpd G p)) p) (76 + 12 * p + 6) 1
theorem fpd_in {G : Gd} (hi : Iv G) {p : Nat} (hp : (p : Int) < (G 4 0).toInt) : 0 ≤ (fpd G p).toInt ∧ (fpd G p).toInt ≤ (G 26 p).toInt ∧ (fpd G p).toInt ≤ (Rd G p).toInt := by
  have h1 := hi.p hp
  have h2 := Rd_in hi hp
  unfold fpd
  split
  · rename_i c; rw [Int32.lt_iff_toInt_lt] at c; omega
  · rename_i c; rw [Int32.lt_iff_toInt_lt] at c; omega
theorem x_back {σ : Sig} {n : Nat} {G : Gd} (hi : Iv G) {p : Int32} (hp : 0 ≤ p.toInt ∧ p.toInt < (G 4 0).toInt) : f4_takeBackPass n p (xg σ n G) = some (Rd G p.toInt.toNat - fpd G p.toInt.toNat, xg σ n (Gbck G p.toInt.toNat)) := by
  have h0 := hi.1
  have h1 := hi.p (p := p.toInt.toNat) (by omega)
  have hp3 : 0 ≤ p.toInt ∧ p.toInt < 30 := by omega
  have hp30 : 0 ≤ p.toInt ∧ p.toInt < ((30 : Nat) : Int) := hp3
  have ef : (if G 26 p.toInt.toNat < Rd G p.toInt.toNat then G 26 p.toInt.toNat else Rd G p.toInt.toNat) = fpd G p.toInt.toNat := rfl
  have eb : Gpay (p2 G 6 1 (G 6 1 + Rd G p.toInt.toNat)) p.toInt.toNat (fpd G p.toInt.toNat) = Gbk G p.toInt.toNat (Rd G p.toInt.toNat) (fpd G p.toInt.toNat) := rfl
  have e20 : Gbk G p.toInt.toNat (Rd G p.toInt.toNat) (fpd G p.toInt.toNat) 20 = G 20 := rfl
  have e5 : Gbk G p.toInt.toNat (Rd G p.toInt.toNat) (fpd G p.toInt.toNat) 5 = G 5 := rfl
  unfold f4_takeBackPass Gbck
  rw [x_refund hi hp]
  simp only [nm_ap, bnd_ap, bns_ap, bnx_ap0, bnx_ap1, bnx_ap2, bnx_ap3, bnx_ap4, gz_0, gz_1, dvd_96, dvd_2, dvd_10000, rmd_96, rmd_8, xg_at, xg_0, mr_at, up_xg, up_mr, narz_0, narz_1, i10, i01, i11, i00, ↓reduceIte, e10, e01, e50, e51, e20, e60, e70, e30, e40, Classical.not_not, not_true_eq_false, not_false_eq_true, ald_in hp30, ef, x_pay hp3, eb]
  by_cases c : (G 20 p.toInt.toNat).toInt = -1
  · rw [x_block0 hp3 (by rw [e20]; exact c), if_pos c]
    simp only [nm_ap, bnd_ap, bns_ap, bnx_ap0, bnx_ap1, bnx_ap2, bnx_ap3, bnx_ap4, gz_0, gz_1, dvd_96, dvd_2, dvd_10000, rmd_96, rmd_8, xg_at, xg_0, mr_at, up_xg, up_mr, narz_0, narz_1, i10, i01, i11, i00, ↓reduceIte, e10, e01, e50, e51, e20, e60, e70, e30, e40, Classical.not_not, not_true_eq_false, not_false_eq_true, ast_in hp30]
  · rw [x_block hp3 (by rw [e20, e5]; omega) (by rw [e5]; omega), if_neg c]
    simp only [nm_ap, bnd_ap, bns_ap, bnx_ap0, bnx_ap1, bnx_ap2, bnx_ap3, bnx_ap4, gz_0, gz_1, dvd_96, dvd_2, dvd_10000, rmd_96, rmd_8, xg_at, xg_0, mr_at, up_xg, up_mr, narz_0, narz_1, i10, i01, i11, i00, ↓reduceIte, e10, e01, e50, e51, e20, e60, e70, e30, e40, Classical.not_not, not_true_eq_false, not_false_eq_true, ast_in hp30]
theorem m_back {G : Gd} {w : Rw} (h : RG G w) (hi : Iv G) (τ : Sig) {p : Int32} (hp : 0 ≤ p.toInt ∧ p.toInt < (G 4 0).toInt) : f12_giveBack p (mr τ w) = some (Rd G p.toInt.toNat - fpd G p.toInt.toNat, mr τ (Wbck G w p.toInt.toNat)) := by
  have h0 := hi.1
  have hn : ((p.toInt.toNat : Nat) : Int) < (G 4 0).toInt := by omega
  have h1 := hi.p hn
  have hp3 : 0 ≤ p.toInt ∧ p.toInt < 30 := by omega
  have hf := fpd_in hi hn
  have hr := Rd_in hi hn
  have eo : (G 26 p.toInt.toNat - fpd G p.toInt.toNat).toInt = (G 26 p.toInt.toNat).toInt - (fpd G p.toInt.toNat).toInt := tv_sub rfl rfl (by omega)
  have go : ∀ t0, t0 = fpd G p.toInt.toNat → f12_giveBack_b28 p (Rd G p.toInt.toNat) t0 (mr τ w) = some (Rd G p.toInt.toNat - fpd G p.toInt.toNat, mr τ (Wbck G w p.toInt.toNat)) := by
    intro t0 et
    subst et
    have pn : p.toInt.toNat < 30 := by omega
    have hb : Wbk w p.toInt.toNat (Rd G p.toInt.toNat) (fpd G p.toInt.toNat) (76 + 12 * p.toInt.toNat + 5) = G 20 p.toInt.toNat := by
      unfold Wbk Wpay
      simp (disch := omega) only [upd_at, upd_ne, p2_at, p2_ne, h.p5 hn]
    have ew : upd (upd (Wpay w p.toInt.toNat (fpd G p.toInt.toNat)) 10 (Wpay w p.toInt.toNat (fpd G p.toInt.toNat) 10 + Rd G p.toInt.toNat)) 9 (upd (Wpay w p.toInt.toNat (fpd G p.toInt.toNat)) 10 (Wpay w p.toInt.toNat (fpd G p.toInt.toNat) 10 + Rd G p.toInt.toNat) 9 - Rd G p.toInt.toNat) = Wbk w p.toInt.toNat (Rd G p.toInt.toNat) (fpd G p.toInt.toNat) := by
      unfold Wbk Wpay
      simp (disch := omega) only [upd_at, upd_ne, p2_at, p2_ne]
    have c0 : (0 : Int32) ≤ G 26 p.toInt.toNat - fpd G p.toInt.toNat := by
      rw [Int32.le_iff_toInt_le, eo]
      have e0 : (0 : Int32).toInt = 0 := rfl
      omega
    unfold f12_giveBack_b28 Wbck f12_giveBack_b76
    rw [m_receive hp3]
    simp only [nm_ap, bnd_ap, bns_ap, bnx_ap0, bnx_ap1, bnx_ap2, bnx_ap3, bnx_ap4, gz_0, gz_1, dvd_96, dvd_2, dvd_10000, rmd_96, rmd_8, xg_at, xg_0, mr_at, up_xg, up_mr, narz_0, narz_1, i10, i01, i11, i00, ↓reduceIte, e10, e01, e50, e51, e20, e60, e70, e30, e40, Classical.not_not, not_true_eq_false, not_false_eq_true, al_0, al_1, al_2, al_3, al_4, al_5, al_6, al_7, al_8, al_9, al_10, al_11, al_12, al_13, al_14, as_0, as_1, as_2, as_3, as_4, as_5, as_6, as_7, as_8, as_9, as_10, as_11, as_12, as_13, as_14, ew, mo_5 hp3, hb, h.p11 hn, if_pos c0, mp_6 hp3]
    by_cases c : (G 20 p.toInt.toNat).toInt = -1
    · have pc : G 20 p.toInt.toNat = -1 := ti_ext (by rw [c]; rfl)
      rw [if_pos c, if_pos pc]
    · have nc : ¬ G 20 p.toInt.toNat = -1 := fun e => c (by rw [e]; rfl)
      rw [if_neg c, if_neg nc, m_lose hp3 (by rw [hb]; omega)]
      simp only [nm_ap, bnd_ap, bns_ap, bnx_ap0, bnx_ap1, bnx_ap2, bnx_ap3, bnx_ap4, gz_0, gz_1, dvd_96, dvd_2, dvd_10000, rmd_96, rmd_8, xg_at, xg_0, mr_at, up_xg, up_mr, narz_0, narz_1, i10, i01, i11, i00, ↓reduceIte, e10, e01, e50, e51, e20, e60, e70, e30, e40, Classical.not_not, not_true_eq_false, not_false_eq_true, mp_6 hp3, if_pos c0]
  unfold f12_giveBack
  rw [m_refund h hi τ hp]
  simp only [nm_ap, bnd_ap, bns_ap, bnx_ap0, bnx_ap1, bnx_ap2, bnx_ap3, bnx_ap4, gz_0, gz_1, dvd_96, dvd_2, dvd_10000, rmd_96, rmd_8, xg_at, xg_0, mr_at, up_xg, up_mr, narz_0, narz_1, i10, i01, i11, i00, ↓reduceIte, e10, e01, e50, e51, e20, e60, e70, e30, e40, Classical.not_not, not_true_eq_false, not_false_eq_true, mo_11 hp3, h.p11 hn]
  by_cases c : Rd G p.toInt.toNat ≤ G 26 p.toInt.toNat
  · rw [if_pos c]
    refine go _ ?_
    unfold fpd
    rw [if_neg (by rw [Int32.not_lt]; exact c)]
  · rw [if_neg c]
    refine go _ ?_
    unfold fpd
    rw [if_pos (by rw [← Int32.not_le]; exact c)]
theorem gp_back {G : Gd} {w : Rw} (hg : GP G w) {p : Nat} (hp : (p : Int) < (G 4 0).toInt) : GP (Gbck G p) (Wbck G w p) := by
  have hf := fpd_in hg.2 hp
  have h1 := hg.2.p hp
  have r1 := rg_bk hg.1 hp (Rd G p) (fpd G p) hg.2.bd
  have i1 : Iv (Gbk G p (Rd G p) (fpd G p)) := iv_pay (iv_6 hg.2 1 _) hp ⟨hf.1, hf.2.1⟩
  unfold Gbck Wbck
  by_cases c : (G 20 p).toInt = -1
  · rw [if_pos c, if_pos c]
    exact ⟨rg_ret r1 hp i1.bd, iv_ret i1 hp⟩
  · rw [if_neg c, if_neg c]
    have hc : 0 ≤ (Gbk G p (Rd G p) (fpd G p) 20 p).toInt ∧ (Gbk G p (Rd G p) (fpd G p) 20 p).toInt < (Gbk G p (Rd G p) (fpd G p) 5 0).toInt := by
      rw [show Gbk G p (Rd G p) (fpd G p) 20 = G 20 from rfl, show Gbk G p (Rd G p) (fpd G p) 5 = G 5 from rfl]
      omega
    have r2 := rg_los r1 hp hc i1.bd
    have i2 := iv_los i1 hp hc
    exact ⟨rg_ret r2 hp i2.bd, iv_ret i2 hp⟩
theorem ok_refundPass {σ τ : Sig} {G : Gd} {w : Rw} (a : Int32) (h : Rl (xg σ 8 G) (mr τ w)) : OKx [2, 3] (f11_refundPass a (xg σ 8 G)) (f12_refundPass a (mr τ w)) := by
  have hg := h.gp
  have h0 := hg.2.1
  unfold f11_refundPass f12_refundPass
  simp only [nm_ap, up_mr0, x_pass, m_noPass hg]
  by_cases c1 : 0 ≤ a.toInt ∧ a.toInt < (G 4 0).toInt
  · have an : ((a.toInt.toNat : Nat) : Int) < (G 4 0).toInt := by omega
    have a3 : 0 ≤ a.toInt ∧ a.toInt < 30 := by omega
    have a30 : 0 ≤ a.toInt ∧ a.toInt < ((30 : Nat) : Int) := a3
    have h1 := hg.2.p an
    unfold f11_refundPass_b25 f12_refundPass_b30
    simp only [if_pos c1, nm_ap, bnd_ap, bns_ap, bnx_ap0, bnx_ap1, bnx_ap2, bnx_ap3, bnx_ap4, gz_0, gz_1, dvd_96, dvd_2, dvd_10000, rmd_96, rmd_8, xg_at, xg_0, mr_at, up_xg, up_mr, narz_0, narz_1, i10, i01, i11, i00, ↓reduceIte, e10, e01, e50, e51, e20, e60, e70, e30, e40, Classical.not_not, not_true_eq_false, not_false_eq_true, x_range, m_outside, Int32.reduceToInt, x_state, m_raise0, m_raise1, up_mr0, ite_not, ald_in a30, mo_6 a3, hg.1.p6 an]
    rcases b01 (x := G 21 a.toInt.toNat) (by omega) with c2 | c2
    · obtain ⟨σ1, τ1, q1, q2, e0, hput⟩ := rem_ok (h.thm 0)
      simp only [c2, nm_ap, bnd_ap, bns_ap, bnx_ap0, bnx_ap1, bnx_ap2, bnx_ap3, bnx_ap4, gz_0, gz_1, dvd_96, dvd_2, dvd_10000, rmd_96, rmd_8, xg_at, xg_0, mr_at, up_xg, up_mr, narz_0, narz_1, i10, i01, i11, i00, ↓reduceIte, e10, e01, e50, e51, e20, e60, e70, e30, e40, Classical.not_not, not_true_eq_false, not_false_eq_true, x_range, m_outside, Int32.reduceToInt, x_state, m_raise0, m_raise1, up_mr0, ite_not, q1, q2, x_back hg.2 c1, m_back hg.1 hg.2 τ1 c1]
      exact OKx.good (hput _ _ (gp_back hg an)) (by rw [th_mr, e0, th_at])
    · simp only [c2, nm_ap, bnd_ap, bns_ap, bnx_ap0, bnx_ap1, bnx_ap2, bnx_ap3, bnx_ap4, gz_0, gz_1, dvd_96, dvd_2, dvd_10000, rmd_96, rmd_8, xg_at, xg_0, mr_at, up_xg, up_mr, narz_0, narz_1, i10, i01, i11, i00, ↓reduceIte, e10, e01, e50, e51, e20, e60, e70, e30, e40, Classical.not_not, not_true_eq_false, not_false_eq_true, x_range, m_outside, Int32.reduceToInt, x_state, m_raise0, m_raise1, up_mr0, ite_not]
      exact OKx.bad 1 rfl (by decide) rfl (h.thm 0)
  · simp only [if_neg c1, nm_ap, bnd_ap, bns_ap, bnx_ap0, bnx_ap1, bnx_ap2, bnx_ap3, bnx_ap4, gz_0, gz_1, dvd_96, dvd_2, dvd_10000, rmd_96, rmd_8, xg_at, xg_0, mr_at, up_xg, up_mr, narz_0, narz_1, i10, i01, i11, i00, ↓reduceIte, e10, e01, e50, e51, e20, e60, e70, e30, e40, Classical.not_not, not_true_eq_false, not_false_eq_true, x_range, m_outside, Int32.reduceToInt, x_state, m_raise0, m_raise1, up_mr0, ite_not]
    exact OKx.bad 0 rfl (by decide) rfl (h.thm 0)
theorem gp_show {G : Gd} {w : Rw} (hg : GP G w) {k b : Nat} {bi : Int32} (hk : (k : Int) < (G 5 0).toInt) (hb : (b : Int) < (G 3 0).toInt) (hbi : bi.toInt = b) : GP (Gsho G k b bi) (if Rf G k b = 2 then upd w 13 (w 13 + 1) else if Rf G k b = 0 then Wvis w (G 27 k).toInt.toNat b bi (Td G) else w) := by
  unfold Gsho
  by_cases h2 : Rf G k b = 2
  · rw [if_pos h2, if_pos h2]
    exact ⟨rg_alarm hg.1 hg.2.bd, iv_6 hg.2 5 _⟩
  · rw [if_neg h2, if_neg h2]
    by_cases h3 : Rf G k b = 0
    · rw [if_pos h3, if_pos h3]
      have hr := Rf_0 h3
      have h1 := hg.2.k hk
      exact ⟨rg_vis hg.1 (by omega) hb bi hg.2.bd, iv_vis hg.2 (by omega) hb hbi ⟨hr.2.1, hr.2.2.1⟩ hr.2.2.2.1 hr.2.2.2.2⟩
    · rw [if_neg h3, if_neg h3]
      exact hg
theorem ok_visit {σ τ : Sig} {G : Gd} {w : Rw} (a b : Int32) (h : Rl (xg σ 8 G) (mr τ w)) : OKx [2] (f11_visit a b (xg σ 8 G)) (f12_visit a b (mr τ w)) := by
  have hg := h.gp
  unfold f11_visit f12_visit
  simp only [nm_ap, up_mr0, x_cardq, m_noCard hg]
  by_cases c1 : 0 ≤ a.toInt ∧ a.toInt < (G 5 0).toInt
  · simp only [if_pos c1, nm_ap, bnd_ap, bns_ap, bnx_ap0, bnx_ap1, bnx_ap2, bnx_ap3, bnx_ap4, gz_0, gz_1, dvd_96, dvd_2, dvd_10000, rmd_96, rmd_8, xg_at, xg_0, mr_at, up_xg, up_mr, narz_0, narz_1, i10, i01, i11, i00, ↓reduceIte, e10, e01, e50, e51, e20, e60, e70, e30, e40, Classical.not_not, not_true_eq_false, not_false_eq_true, x_range, m_outside, Int32.reduceToInt, x_state, m_raise0, m_raise1, up_mr0, ite_not, x_bedq, m_noBed hg]
    by_cases c2 : 0 ≤ b.toInt ∧ b.toInt < (G 3 0).toInt
    · obtain ⟨σ1, τ1, q1, q2, e0, hput⟩ := rem_ok (h.thm 0)
      simp only [if_pos c2, nm_ap, bnd_ap, bns_ap, bnx_ap0, bnx_ap1, bnx_ap2, bnx_ap3, bnx_ap4, gz_0, gz_1, dvd_96, dvd_2, dvd_10000, rmd_96, rmd_8, xg_at, xg_0, mr_at, up_xg, up_mr, narz_0, narz_1, i10, i01, i11, i00, ↓reduceIte, e10, e01, e50, e51, e20, e60, e70, e30, e40, Classical.not_not, not_true_eq_false, not_false_eq_true, x_range, m_outside, Int32.reduceToInt, x_state, m_raise0, m_raise1, up_mr0, ite_not, q1, q2, x_show hg.2 c1 c2, m_show hg.1 hg.2 τ1 c1 c2]
      exact OKx.good (hput _ _ (gp_show hg (by omega) (by omega) (by omega))) (by rw [th_mr, e0, th_at])
    · simp only [if_neg c2, nm_ap, bnd_ap, bns_ap, bnx_ap0, bnx_ap1, bnx_ap2, bnx_ap3, bnx_ap4, gz_0, gz_1, dvd_96, dvd_2, dvd_10000, rmd_96, rmd_8, xg_at, xg_0, mr_at, up_xg, up_mr, narz_0, narz_1, i10, i01, i11, i00, ↓reduceIte, e10, e01, e50, e51, e20, e60, e70, e30, e40, Classical.not_not, not_true_eq_false, not_false_eq_true, x_range, m_outside, Int32.reduceToInt, x_state, m_raise0, m_raise1, up_mr0, ite_not]
      exact OKx.bad 0 rfl (by decide) rfl (h.thm 0)
  · simp only [if_neg c1, nm_ap, bnd_ap, bns_ap, bnx_ap0, bnx_ap1, bnx_ap2, bnx_ap3, bnx_ap4, gz_0, gz_1, dvd_96, dvd_2, dvd_10000, rmd_96, rmd_8, xg_at, xg_0, mr_at, up_xg, up_mr, narz_0, narz_1, i10, i01, i11, i00, ↓reduceIte, e10, e01, e50, e51, e20, e60, e70, e30, e40, Classical.not_not, not_true_eq_false, not_false_eq_true, x_range, m_outside, Int32.reduceToInt, x_state, m_raise0, m_raise1, up_mr0, ite_not]
    exact OKx.bad 0 rfl (by decide) rfl (h.thm 0)
theorem gp_plk {G : Gd} {w : Rw} (hg : GP G w) {k : Nat} (hk : (k : Int) < (G 5 0).toInt) {bl : Int32} (hbl : 1 ≤ bl.toInt ∧ bl.toInt ≤ 9) (hc : CpP G k bl) : GP (Gplk G (G 27 k).toInt.toNat (G 25 (G 27 k).toInt.toNat).toInt.toNat (Fn G (G 25 (G 27 k).toInt.toNat).toInt.toNat bl) bl) (Wplk w (G 27 k).toInt.toNat (G 25 (G 27 k).toInt.toNat).toInt.toNat (Fn G (G 25 (G 27 k).toInt.toNat).toInt.toNat bl) bl) := by
  have h0 := hg.2.1
  have h1 := hg.2.k hk
  have h2 := hg.2.p (p := (G 27 k).toInt.toNat) (by omega)
  have hc2 := hc.2.1
  have hc3 := hc.2.2
  exact ⟨rg_plk hg.1 (by omega) (by omega) _ _ hg.2.bd, iv_plk hg.2 (by omega) (by omega) (by omega) hc2 ⟨hbl.1, hc3⟩ (Fn_in hg.2 hbl)⟩
theorem ok_pluck {σ τ : Sig} {G : Gd} {w : Rw} (a b : Int32) (h : Rl (xg σ 8 G) (mr τ w)) : OKx [2, 1, 3] (f11_pluck a b (xg σ 8 G)) (f12_pluck a b (mr τ w)) := by
  have hg := h.gp
  unfold f11_pluck f12_pluck
  simp only [nm_ap, up_mr0, x_cardq, m_noCard hg]
  by_cases c1 : 0 ≤ a.toInt ∧ a.toInt < (G 5 0).toInt
  · by_cases c2 : 1 ≤ b.toInt ∧ b.toInt ≤ 9
    · simp only [if_pos c1, if_pos c2, nm_ap, bnd_ap, bns_ap, bnx_ap0, bnx_ap1, bnx_ap2, bnx_ap3, bnx_ap4, gz_0, gz_1, dvd_96, dvd_2, dvd_10000, rmd_96, rmd_8, xg_at, xg_0, mr_at, up_xg, up_mr, narz_0, narz_1, i10, i01, i11, i00, ↓reduceIte, e10, e01, e50, e51, e20, e60, e70, e30, e40, Classical.not_not, not_true_eq_false, not_false_eq_true, x_range, m_outside, Int32.reduceToInt, x_state, m_raise0, m_raise1, up_mr0, ite_not, x_canPluck hg.2 c1, m_cannotPluck hg.1 hg.2 c1]
      by_cases c3 : CpP G a.toInt.toNat b
      · obtain ⟨σ1, τ1, q1, q2, e0, hput⟩ := rem_ok (h.thm 0)
        simp only [if_pos c3, nm_ap, bnd_ap, bns_ap, bnx_ap0, bnx_ap1, bnx_ap2, bnx_ap3, bnx_ap4, gz_0, gz_1, dvd_96, dvd_2, dvd_10000, rmd_96, rmd_8, xg_at, xg_0, mr_at, up_xg, up_mr, narz_0, narz_1, i10, i01, i11, i00, ↓reduceIte, e10, e01, e50, e51, e20, e60, e70, e30, e40, Classical.not_not, not_true_eq_false, not_false_eq_true, x_range, m_outside, Int32.reduceToInt, x_state, m_raise0, m_raise1, up_mr0, ite_not, q1, q2, x_pluck hg.2 c1 c3, m_take hg.1 hg.2 τ1 c1 c3]
        exact OKx.good (hput _ _ (gp_plk hg (by omega) c2 c3)) (by rw [th_mr, e0, th_at])
      · simp only [if_neg c3, nm_ap, bnd_ap, bns_ap, bnx_ap0, bnx_ap1, bnx_ap2, bnx_ap3, bnx_ap4, gz_0, gz_1, dvd_96, dvd_2, dvd_10000, rmd_96, rmd_8, xg_at, xg_0, mr_at, up_xg, up_mr, narz_0, narz_1, i10, i01, i11, i00, ↓reduceIte, e10, e01, e50, e51, e20, e60, e70, e30, e40, Classical.not_not, not_true_eq_false, not_false_eq_true, x_range, m_outside, Int32.reduceToInt, x_state, m_raise0, m_raise1, up_mr0, ite_not]
        exact OKx.bad 2 rfl (by decide) rfl (h.thm 0)
    · simp only [if_pos c1, if_neg c2, nm_ap, bnd_ap, bns_ap, bnx_ap0, bnx_ap1, bnx_ap2, bnx_ap3, bnx_ap4, gz_0, gz_1, dvd_96, dvd_2, dvd_10000, rmd_96, rmd_8, xg_at, xg_0, mr_at, up_xg, up_mr, narz_0, narz_1, i10, i01, i11, i00, ↓reduceIte, e10, e01, e50, e51, e20, e60, e70, e30, e40, Classical.not_not, not_true_eq_false, not_false_eq_true, x_range, m_outside, Int32.reduceToInt, x_state, m_raise0, m_raise1, up_mr0, ite_not]
      exact OKx.bad 1 rfl (by decide) rfl (h.thm 0)
  · simp only [if_neg c1, nm_ap, bnd_ap, bns_ap, bnx_ap0, bnx_ap1, bnx_ap2, bnx_ap3, bnx_ap4, gz_0, gz_1, dvd_96, dvd_2, dvd_10000, rmd_96, rmd_8, xg_at, xg_0, mr_at, up_xg, up_mr, narz_0, narz_1, i10, i01, i11, i00, ↓reduceIte, e10, e01, e50, e51, e20, e60, e70, e30, e40, Classical.not_not, not_true_eq_false, not_false_eq_true, x_range, m_outside, Int32.reduceToInt, x_state, m_raise0, m_raise1, up_mr0, ite_not]
    exact OKx.bad 0 rfl (by decide) rfl (h.thm 0)
theorem ok_payFines {σ τ : Sig} {G : Gd} {w : Rw} (a b : Int32) (h : Rl (xg σ 8 G) (mr τ w)) : OKx [2, 1, 3] (f11_payFines a b (xg σ 8 G)) (f12_payFines a b (mr τ w)) := by
  have hg := h.gp
  have h0 := hg.2.1
  unfold f11_payFines f12_payFines
  simp only [nm_ap, up_mr0, x_pass, m_noPass hg]
  by_cases c1 : 0 ≤ a.toInt ∧ a.toInt < (G 4 0).toInt
  · by_cases c2 : 1 ≤ b.toInt ∧ b.toInt ≤ 9999
    · have an : ((a.toInt.toNat : Nat) : Int) < (G 4 0).toInt := by omega
      have a3 : 0 ≤ a.toInt ∧ a.toInt < 30 := by omega
      have a30 : 0 ≤ a.toInt ∧ a.toInt < ((30 : Nat) : Int) := a3
      simp only [if_pos c1, if_pos c2, nm_ap, bnd_ap, bns_ap, bnx_ap0, bnx_ap1, bnx_ap2, bnx_ap3, bnx_ap4, gz_0, gz_1, dvd_96, dvd_2, dvd_10000, rmd_96, rmd_8, xg_at, xg_0, mr_at, up_xg, up_mr, narz_0, narz_1, i10, i01, i11, i00, ↓reduceIte, e10, e01, e50, e51, e20, e60, e70, e30, e40, Classical.not_not, not_true_eq_false, not_false_eq_true, x_range, m_outside, Int32.reduceToInt, x_state, m_raise0, m_raise1, up_mr0, ite_not, ald_in a30, mo_11 a3, hg.1.p11 an]
      unfold f11_payFines_b34 f12_payFines_b43
      by_cases c3 : G 26 a.toInt.toNat < b
      · have c3' : ¬ b ≤ G 26 a.toInt.toNat := by rw [Int32.not_le]; exact c3
        simp only [if_pos c3, if_neg c3', nm_ap, bnd_ap, bns_ap, bnx_ap0, bnx_ap1, bnx_ap2, bnx_ap3, bnx_ap4, gz_0, gz_1, dvd_96, dvd_2, dvd_10000, rmd_96, rmd_8, xg_at, xg_0, mr_at, up_xg, up_mr, narz_0, narz_1, i10, i01, i11, i00, ↓reduceIte, e10, e01, e50, e51, e20, e60, e70, e30, e40, Classical.not_not, not_true_eq_false, not_false_eq_true, x_range, m_outside, Int32.reduceToInt, x_state, m_raise0, m_raise1, up_mr0, ite_not]
        exact OKx.bad 2 rfl (by decide) rfl (h.thm 0)
      · have c3' : b ≤ G 26 a.toInt.toNat := by rw [← Int32.not_lt]; exact c3
        obtain ⟨σ1, τ1, q1, q2, e0, hput⟩ := rem_ok (h.thm 0)
        have e26 : Gpay G a.toInt.toNat b 26 a.toInt.toNat = G 26 a.toInt.toNat - b := by
          unfold Gpay
          simp (disch := omega) only [upd_at, upd_ne, p2_at, p2_ne]
        simp only [if_neg c3, if_pos c3', nm_ap, bnd_ap, bns_ap, bnx_ap0, bnx_ap1, bnx_ap2, bnx_ap3, bnx_ap4, gz_0, gz_1, dvd_96, dvd_2, dvd_10000, rmd_96, rmd_8, xg_at, xg_0, mr_at, up_xg, up_mr, narz_0, narz_1, i10, i01, i11, i00, ↓reduceIte, e10, e01, e50, e51, e20, e60, e70, e30, e40, Classical.not_not, not_true_eq_false, not_false_eq_true, x_range, m_outside, Int32.reduceToInt, x_state, m_raise0, m_raise1, up_mr0, ite_not, q1, q2, x_pay a3, m_receive a3, hg.1.p11 an, ald_in a30, e26]
        rw [Int32.le_iff_toInt_le] at c3'
        exact OKx.good (hput _ _ ⟨rg_pay hg.1 an b hg.2.bd, iv_pay hg.2 an (by omega)⟩) (by rw [th_mr, e0, th_at])
    · simp only [if_pos c1, if_neg c2, nm_ap, bnd_ap, bns_ap, bnx_ap0, bnx_ap1, bnx_ap2, bnx_ap3, bnx_ap4, gz_0, gz_1, dvd_96, dvd_2, dvd_10000, rmd_96, rmd_8, xg_at, xg_0, mr_at, up_xg, up_mr, narz_0, narz_1, i10, i01, i11, i00, ↓reduceIte, e10, e01, e50, e51, e20, e60, e70, e30, e40, Classical.not_not, not_true_eq_false, not_false_eq_true, x_range, m_outside, Int32.reduceToInt, x_state, m_raise0, m_raise1, up_mr0, ite_not]
      exact OKx.bad 1 rfl (by decide) rfl (h.thm 0)
  · simp only [if_neg c1, nm_ap, bnd_ap, bns_ap, bnx_ap0, bnx_ap1, bnx_ap2, bnx_ap3, bnx_ap4, gz_0, gz_1, dvd_96, dvd_2, dvd_10000, rmd_96, rmd_8, xg_at, xg_0, mr_at, up_xg, up_mr, narz_0, narz_1, i10, i01, i11, i00, ↓reduceIte, e10, e01, e50, e51, e20, e60, e70, e30, e40, Classical.not_not, not_true_eq_false, not_false_eq_true, x_range, m_outside, Int32.reduceToInt, x_state, m_raise0, m_raise1, up_mr0, ite_not]
    exact OKx.bad 0 rfl (by decide) rfl (h.thm 0)
theorem ok_pass {σ τ : Sig} {G : Gd} {w : Rw} (a : Int32) (h : Rl (xg σ 8 G) (mr τ w)) : OKx [1, 3] (f11_pass a (xg σ 8 G)) (f12_pass a (mr τ w)) := by
  have hg := h.gp
  have h0 := hg.2.1
  unfold f11_pass f12_pass
  simp only [nm_ap, up_mr0, x_range, m_outside, Int32.reduceToInt]
  by_cases c1 : 1 ≤ a.toInt ∧ a.toInt ≤ 500
  · have e : (G 1 0 + a).toInt = (G 1 0).toInt + a.toInt := tv_add rfl rfl (by omega)
    simp only [if_pos c1, nm_ap, bnd_ap, bns_ap, bnx_ap0, bnx_ap1, bnx_ap2, bnx_ap3, bnx_ap4, gz_0, gz_1, dvd_96, dvd_2, dvd_10000, rmd_96, rmd_8, xg_at, xg_0, mr_at, up_xg, up_mr, narz_0, narz_1, i10, i01, i11, i00, ↓reduceIte, e10, e01, e50, e51, e20, e60, e70, e30, e40, Classical.not_not, not_true_eq_false, not_false_eq_true, x_range, m_outside, Int32.reduceToInt, x_state, m_raise0, m_raise1, up_mr0, ite_not, x_canGo hg.2 (show 0 ≤ a.toInt ∧ a.toInt ≤ 9999 by omega), al_0, al_1, al_2, al_3, al_4, al_5, al_6, al_7, al_8, al_9, al_10, al_11, al_12, al_13, al_14, hg.1.s4, Int32.le_iff_toInt_le, e]
    unfold f12_pass_b38
    by_cases c2 : (G 1 0).toInt + a.toInt ≤ 9599
    · obtain ⟨σ1, τ1, q1, q2, e0, hput⟩ := rem_ok (h.thm 0)
      obtain ⟨w', z1, z2⟩ := m_ticks (τ := τ1) hg.1 hg.2 (t := a) ⟨c1.1, c1.2, c2⟩
      have et : Gtk G a 1 0 = G 1 0 + a := rfl
      simp only [if_pos c2, nm_ap, bnd_ap, bns_ap, bnx_ap0, bnx_ap1, bnx_ap2, bnx_ap3, bnx_ap4, gz_0, gz_1, dvd_96, dvd_2, dvd_10000, rmd_96, rmd_8, xg_at, xg_0, mr_at, up_xg, up_mr, narz_0, narz_1, i10, i01, i11, i00, ↓reduceIte, e10, e01, e50, e51, e20, e60, e70, e30, e40, Classical.not_not, not_true_eq_false, not_false_eq_true, x_range, m_outside, Int32.reduceToInt, x_state, m_raise0, m_raise1, up_mr0, ite_not, q1, q2, x_ticks hg.2 ⟨c1.1, c2⟩, z1, al_0, al_1, al_2, al_3, al_4, al_5, al_6, al_7, al_8, al_9, al_10, al_11, al_12, al_13, al_14, z2.s4, et]
      exact OKx.good (hput _ _ ⟨z2, iv_tk hg.2 ⟨c1.1, c2⟩⟩) (by rw [th_mr, e0, th_at])
    · simp only [if_neg c2, nm_ap, bnd_ap, bns_ap, bnx_ap0, bnx_ap1, bnx_ap2, bnx_ap3, bnx_ap4, gz_0, gz_1, dvd_96, dvd_2, dvd_10000, rmd_96, rmd_8, xg_at, xg_0, mr_at, up_xg, up_mr, narz_0, narz_1, i10, i01, i11, i00, ↓reduceIte, e10, e01, e50, e51, e20, e60, e70, e30, e40, Classical.not_not, not_true_eq_false, not_false_eq_true, x_range, m_outside, Int32.reduceToInt, x_state, m_raise0, m_raise1, up_mr0, ite_not]
      exact OKx.bad 1 rfl (by decide) rfl (h.thm 0)
  · simp only [if_neg c1, nm_ap, bnd_ap, bns_ap, bnx_ap0, bnx_ap1, bnx_ap2, bnx_ap3, bnx_ap4, gz_0, gz_1, dvd_96, dvd_2, dvd_10000, rmd_96, rmd_8, xg_at, xg_0, mr_at, up_xg, up_mr, narz_0, narz_1, i10, i01, i11, i00, ↓reduceIte, e10, e01, e50, e51, e20, e60, e70, e30, e40, Classical.not_not, not_true_eq_false, not_false_eq_true, x_range, m_outside, Int32.reduceToInt, x_state, m_raise0, m_raise1, up_mr0, ite_not]
    exact OKx.bad 0 rfl (by decide) rfl (h.thm 0)
