/-! THE MATHEMATICS, 6: the changes of a garden, one by one: what the class does to its block, the reference to its row -/
-- fines are paid
def Gpay (G : Gd) (p : Nat) (a : Int32) : Gd := p2 (p2 (p2 G 26 p (G 26 p - a)) 6 3 (G 6 3 + a)) 6 0 (G 6 0 + a)
def Wpay (w : Rw) (p : Nat) (a : Int32) : Rw := upd (upd (upd w (76 + 12 * p + 11) (w (76 + 12 * p + 11) - a)) 11 (w 11 + a)) 9 (w 9 + a)
theorem x_pay {σ : Sig} {n : Nat} {G : Gd} {p a : Int32} (hp : 0 ≤ p.toInt ∧ p.toInt < 30) : f4_payFinesOf n p a (xg σ n G) = some (xg σ n (Gpay G p.toInt.toNat a)) := by
  have hp' : 0 ≤ p.toInt ∧ p.toInt < ((30 : Nat) : Int) := hp
  unfold f4_payFinesOf Gpay
  simp only [nm_ap, bnd_ap, bns_ap, bnx_ap0, bnx_ap1, bnx_ap2, bnx_ap3, bnx_ap4, gz_0, gz_1, dvd_96, dvd_2, dvd_10000, rmd_96, rmd_8, xg_at, xg_0, mr_at, up_xg, up_mr, narz_0, narz_1, i10, i01, i11, i00, reduceIte, e10, e01, e50, e51, e20, e60, e70, e30, e40, Classical.not_not, not_true_eq_false, not_false_eq_true, ald_in hp', ast_in hp']
  simp (disch := omega) only [upd_at, upd_ne, p2_if, Nat.reduceEqDiff, reduceIte, if_true, if_false]
theorem m_receive {τ : Sig} {w : Rw} {p a : Int32} (hp : 0 ≤ p.toInt ∧ p.toInt < 30) : f12_receive p a (mr τ w) = some (w (76 + 12 * p.toInt.toNat + 11) - a, mr τ (Wpay w p.toInt.toNat a)) := by
  unfold f12_receive Wpay
  simp only [nm_ap, bnd_ap, bns_ap, bnx_ap0, bnx_ap1, bnx_ap2, bnx_ap3, bnx_ap4, gz_0, gz_1, dvd_96, dvd_2, dvd_10000, rmd_96, rmd_8, xg_at, xg_0, mr_at, up_xg, up_mr, narz_0, narz_1, i10, i01, i11, i00, reduceIte, e10, e01, e50, e51, e20, e60, e70, e30, e40, Classical.not_not, not_true_eq_false, not_false_eq_true, al_0, al_1, al_2, al_3, al_4, al_5, al_6, al_7, al_8, al_9, al_10, al_11, al_12, al_13, al_14, as_0, as_1, as_2, as_3, as_4, as_5, as_6, as_7, as_8, as_9, as_10, as_11, as_12, as_13, as_14, mo_11 hp, mp_11 hp]
  simp (disch := omega) only [upd_at, upd_ne, p2_if, Nat.reduceEqDiff, reduceIte, if_true, if_false]
theorem rg_pay {G : Gd} {w : Rw} (h : RG G w) {p : Nat} (hp : (p : Int) < (G 4 0).toInt) (a : Int32) (hB : (G 2 0).toInt ≤ 5 ∧ (G 3 0).toInt ≤ 8 ∧ (G 4 0).toInt ≤ 30 ∧ (G 5 0).toInt ≤ 50) : RG (Gpay G p a) (Wpay w p a) := by
  have e9 : G 6 0 - G 6 1 + a = G 6 0 + a - G 6 1 := by grind
  have ep := h.p11 hp
  unfold Gpay Wpay
  refine ⟨?_, fun i hi => ?_, fun b hb => ?_, fun q hq => ?_, fun k hk => ?_⟩
  · simp (disch := omega) only [upd_at, upd_ne, p2_if, Nat.reduceEqDiff, reduceIte, if_true, if_false, h.s0, h.s1, h.s2, h.s3, h.s4, h.s5, h.s6, h.s7, h.s8, h.s9, h.s10, h.s11, h.s12, h.s13, h.s14, and_self, and_true, true_and, e9,ep]
  · simp (disch := omega) only [upd_at, upd_ne, p2_if, Nat.reduceEqDiff, reduceIte, if_true, if_false] at hi
    have hh := h.2.1 i hi
    simp (disch := omega) only [upd_at, upd_ne, p2_if, Nat.reduceEqDiff, reduceIte, if_true, if_false, hh, and_self, and_true, true_and]
  · simp (disch := omega) only [upd_at, upd_ne, p2_if, Nat.reduceEqDiff, reduceIte, if_true, if_false] at hb
    have hh := h.2.2.1 b hb
    simp (disch := omega) only [upd_at, upd_ne, p2_if, Nat.reduceEqDiff, reduceIte, if_true, if_false, hh, and_self, and_true, true_and]
  · simp (disch := omega) only [upd_at, upd_ne, p2_if, Nat.reduceEqDiff, reduceIte, if_true, if_false] at hq
    have hh := h.2.2.2.1 q hq
    by_cases e : q = p
    · subst e
      simp (disch := omega) only [upd_at, upd_ne, p2_if, Nat.reduceEqDiff, reduceIte, if_true, if_false, hh, and_self, and_true, true_and, e9,ep]
    · simp (disch := omega) only [upd_at, upd_ne, p2_if, Nat.reduceEqDiff, reduceIte, if_true, if_false, hh, and_self, and_true, true_and]
  · simp (disch := omega) only [upd_at, upd_ne, p2_if, Nat.reduceEqDiff, reduceIte, if_true, if_false] at hk
    have hh := h.2.2.2.2 k hk
    simp (disch := omega) only [upd_at, upd_ne, p2_if, Nat.reduceEqDiff, reduceIte, if_true, if_false, hh, and_self, and_true, true_and]
