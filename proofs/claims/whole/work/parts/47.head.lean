/-! THE MATHEMATICS, 28: a fresh garden; the prices -/
def Grs (G : Gd) : Gd := p2 (p2 (p2 (p2 (p2 (p2 (p2 (p2 (p2 (p2 (p2 (p2 (Gwlk (p2 G 1 0 0) 50 53) 2 0 0) 2 1 2) 3 0 0) 4 0 0) 5 0 0) 6 0 0) 6 1 0) 6 2 0) 6 3 0) 6 4 0) 6 5 0) 0 6 1
def Wrs (w : Rw) : Rw := upd (upd (upd (upd (cpl 536 (fun _ => 0) w) 5 2) 6 1) 7 50) 8 53
theorem x_reset (σ : Sig) (n : Nat) (G : Gd) : f4_reset n (xg σ n G) = some (xg σ n (Grs G)) := by
  unfold f4_reset f3_reset f10_reset f1_reset Grs
  simp only [nm_ap, bnd_ap, bns_ap, bnx_ap0, bnx_ap1, bnx_ap2, bnx_ap3, bnx_ap4, gz_0, gz_1, dvd_96, dvd_2, dvd_10000, rmd_96, rmd_8, xg_at, xg_0, mr_at, up_xg, up_mr, narz_0, narz_1, i10, i01, i11, i00, ↓reduceIte, e10, e01, e50, e51, e20, e60, e70, e30, e40, Classical.not_not, not_true_eq_false, not_false_eq_true, x_walk]
theorem m_empty_l (τ : Sig) (w : Rw) : ∀ (fu k : Nat), k ≤ 536 → 536 < fu + k → f12_empty_b2 fu (Int32.ofNat k) (mr τ (cpl k (fun _ => 0) w)) = some (mr τ (Wrs w)) := by
  intro fu
  induction fu with
  | zero => intro k h1 h2; omega
  | succ fu ih =>
    intro k h1 h2
    have ek := oN k (by omega)
    have e5 : (536 : Int32).toInt = 536 := rfl
    rw [f12_empty_b2]
    by_cases hk : k = 536
    · rw [if_pos (by rw [Int32.le_iff_toInt_le, ek, e5]; omega)]
      simp only [as_0, as_1, as_2, as_3, as_4, as_5, as_6, as_7, as_8, as_9, as_10, as_11, as_12, as_13, as_14, up_mr]
      rw [hk]
      rfl
    · rw [if_neg (by rw [Int32.le_iff_toInt_le, ek, e5]; omega), ast_in (by rw [ek]; omega), ek]
      simp only [Int.toNat_natCast, up_mr, nm_eq, oN1]
      rw [show upd (cpl k (fun _ => (0 : Int32)) w) k 0 = cpl (k + 1) (fun _ => 0) w from cpl_s k (fun _ => 0) w]
      exact ih (k + 1) (by omega) (by omega)
theorem m_empty (τ : Sig) (w : Rw) : f12_empty (mr τ w) = some (mr τ (Wrs w)) := by
  unfold f12_empty
  have h := m_empty_l τ w FU 0 (by omega) (by unfold FU; omega)
  rw [cpl_0] at h
  exact h
theorem grs_at (G : Gd) : Grs G 2 0 = 0 ∧ Grs G 3 0 = 0 ∧ Grs G 4 0 = 0 ∧ Grs G 5 0 = 0 ∧ Grs G 1 0 = 0 ∧ Grs G 2 1 = 2 ∧ Grs G 0 6 = 1 ∧ Grs G 1 1 = 50 ∧ Grs G 1 2 = 53 ∧ Grs G 6 0 = 0 ∧ Grs G 6 1 = 0 ∧ Grs G 6 2 = 0 ∧ Grs G 6 3 = 0 ∧ Grs G 6 4 = 0 ∧ Grs G 6 5 = 0 := ⟨rfl, rfl, rfl, rfl, rfl, rfl, rfl, rfl, rfl, rfl, rfl, rfl, rfl, rfl, rfl⟩
theorem wrs_at (w : Rw) : Wrs w 0 = 0 ∧ Wrs w 1 = 0 ∧ Wrs w 2 = 0 ∧ Wrs w 3 = 0 ∧ Wrs w 4 = 0 ∧ Wrs w 5 = 2 ∧ Wrs w 6 = 1 ∧ Wrs w 7 = 50 ∧ Wrs w 8 = 53 ∧ Wrs w 9 = 0 ∧ Wrs w 10 = 0 ∧ Wrs w 11 = 0 ∧ Wrs w 12 = 0 ∧ Wrs w 13 = 0 ∧ Wrs w 14 = 0 := by
  unfold Wrs
  simp (disch := omega) only [upd_at, upd_ne, cpl_lt, and_self]
theorem gp_rs (G : Gd) (w : Rw) : GP (Grs G) (Wrs w) := by
  obtain ⟨g0, g1, g2, g3, g4, g5, g6, g7, g8, g9, g10, g11, g12, g13, g14⟩ := grs_at G
  obtain ⟨w0, w1, w2, w3, w4, w5, w6, w7, w8, w9, w10, w11, w12, w13, w14⟩ := wrs_at w
  have z : (0 : Int32).toInt = 0 := rfl
  have z1 : (1 : Int32).toInt = 1 := rfl
  have z2 : (2 : Int32).toInt = 2 := rfl
  refine ⟨⟨?_, ?_, ?_, ?_, ?_⟩, ⟨?_, ?_, ?_, ?_, ?_, ?_⟩⟩
  · simp only [g0, g1, g2, g3, g4, g5, g6, g7, g8, g9, g10, g11, g12, g13, g14, w0, w1, w2, w3, w4, w5, w6, w7, w8, w9, w10, w11, w12, w13, w14, true_and]
    decide
  · intro i hi; rw [g0, z] at hi; omega
  · intro i hi; rw [g1, z] at hi; omega
  · intro i hi; rw [g2, z] at hi; omega
  · intro i hi; rw [g3, z] at hi; omega
  · simp only [g0, g1, g2, g3, g4, g5, g6, z, z1, z2]
    omega
  · intro i hi; rw [g0, z] at hi; omega
  · intro i hi; rw [g1, z] at hi; omega
  · intro i hi; rw [g2, z] at hi; omega
  · intro i hi; rw [g3, z] at hi; omega
  · rw [g1, g2]; rfl
