/-! THE MATHEMATICS, 6: the changes of a garden, one by one: what the class does to its block, the reference to its row -/
-- fines are paid
def Gpay (G : Gd) (p : Nat) (a : Int32) : Gd := p2 (p2 (p2 G 26 p (G 26 p - a)) 6 3 (G 6 3 + a)) 6 0 (G 6 0 + a)
def Wpay (w : Rw) (p : Nat) (a : Int32) : Rw := upd (upd (upd w (76 + 12 * p + 11) (w (76 + 12 * p + 11) - a)) 11 (w 11 + a)) 9 (w 9 + a)
theorem x_pay {σ : Sig} {n : Nat} {G : Gd} {p a : Int32} (hp : 0 ≤ p.toInt ∧ p.toInt < 30) : f4_payFinesOf n p a (xg σ n G) = some (xg σ n (Gpay G p.toInt.toNat a)) := by
  have hp' : 0 ≤ p.toInt ∧ p.toInt < ((30 : Nat) : Int) := hp
  unfold f4_payFinesOf Gpay
  simp only [nm_ap, bnd_ap, bns_ap, bnx_ap0, bnx_ap1, bnx_ap2, bnx_ap3, bnx_ap4, gz_0, gz_1, dvd_96, dvd_2, dvd_10000, rmd_96, rmd_8, xg_at, xg_0, mr_at, up_xg, up_mr, narz_0, narz_1, i10, i01, i11, i00, ↓reduceIte, e10, e01, e50, e51, e20, e60, e70, e30, e40, Classical.not_not, not_true_eq_false, not_false_eq_true, ald_in hp', ast_in hp']
  simp (disch := omega) only [upd_at, upd_ne, p2_at, p2_ne]
theorem m_receive {τ : Sig} {w : Rw} {p a : Int32} (hp : 0 ≤ p.toInt ∧ p.toInt < 30) : f12_receive p a (mr τ w) = some (w (76 + 12 * p.toInt.toNat + 11) - a, mr τ (Wpay w p.toInt.toNat a)) := by
  unfold f12_receive Wpay
  simp only [nm_ap, bnd_ap, bns_ap, bnx_ap0, bnx_ap1, bnx_ap2, bnx_ap3, bnx_ap4, gz_0, gz_1, dvd_96, dvd_2, dvd_10000, rmd_96, rmd_8, xg_at, xg_0, mr_at, up_xg, up_mr, narz_0, narz_1, i10, i01, i11, i00, ↓reduceIte, e10, e01, e50, e51, e20, e60, e70, e30, e40, Classical.not_not, not_true_eq_false, not_false_eq_true, al_0, al_1, al_2, al_3, al_4, al_5, al_6, al_7, al_8, al_9, al_10, al_11, al_12, al_13, al_14, as_0, as_1, as_2, as_3, as_4, as_5, as_6, as_7, as_8, as_9, as_10, as_11, as_12, as_13, as_14, mo_11 hp, mp_11 hp]
  simp (disch := omega) only [upd_at, upd_ne, p2_at, p2_ne]
theorem rg_pay {G : Gd} {w : Rw} (h : RG G w) {p : Nat} (hp : (p : Int) < (G 4 0).toInt) (a : Int32) (hB : Bd G) : RG (Gpay G p a) (Wpay w p a) := by
  have e9 : G 6 0 - G 6 1 + a = G 6 0 + a - G 6 1 := by grind
  have ep := h.p11 hp
  unfold Gpay Wpay
  refine ⟨?_, fun i9 hi9 => ?_, fun b9 hb9 => ?_, fun q9 hq9 => ?_, fun k9 hk9 => ?_⟩
  · simp (disch := omega) only [upd_at, upd_ne, p2_at, p2_ne, h.s0, h.s1, h.s2, h.s3, h.s4, h.s5, h.s6, h.s7, h.s8, h.s9, h.s10, h.s11, h.s12, h.s13, h.s14, and_self, and_true, true_and, e9,ep]
  · simp (disch := omega) only [upd_at, upd_ne, p2_at, p2_ne] at hi9
    have hh := h.2.1 i9 hi9
    simp (disch := omega) only [upd_at, upd_ne, p2_at, p2_ne, hh, and_self, and_true, true_and]
  · simp (disch := omega) only [upd_at, upd_ne, p2_at, p2_ne] at hb9
    have hh := h.2.2.1 b9 hb9
    simp (disch := omega) only [upd_at, upd_ne, p2_at, p2_ne, hh, and_self, and_true, true_and]
  · simp (disch := omega) only [upd_at, upd_ne, p2_at, p2_ne] at hq9
    have hh := h.2.2.2.1 q9 hq9
    by_cases e9_ : q9 = p
    · subst e9_
      simp (disch := omega) only [upd_at, upd_ne, p2_at, p2_ne, hh, and_self, and_true, true_and, e9,ep]
    · simp (disch := omega) only [upd_at, upd_ne, p2_at, p2_ne, hh, and_self, and_true, true_and]
  · simp (disch := omega) only [upd_at, upd_ne, p2_at, p2_ne] at hk9
    have hh := h.2.2.2.2 k9 hk9
    simp (disch := omega) only [upd_at, upd_ne, p2_at, p2_ne, hh, and_self, and_true, true_and]
-- a refund is booked, and pays fines
def Gbk (G : Gd) (p : Nat) (r a : Int32) : Gd := Gpay (p2 G 6 1 (G 6 1 + r)) p a
def Wbk (w : Rw) (p : Nat) (r a : Int32) : Rw := upd (upd (Wpay w p a) 10 (w 10 + r)) 9 (w 9 + a - r)
theorem rg_bk {G : Gd} {w : Rw} (h : RG G w) {p : Nat} (hp : (p : Int) < (G 4 0).toInt) (r a : Int32) (hB : Bd G) : RG (Gbk G p r a) (Wbk w p r a) := by
  have e9 : G 6 0 - G 6 1 + a - r = G 6 0 + a - (G 6 1 + r) := by grind
  have ep := h.p11 hp
  unfold Gbk Wbk Gpay Wpay
  refine ⟨?_, fun i9 hi9 => ?_, fun b9 hb9 => ?_, fun q9 hq9 => ?_, fun k9 hk9 => ?_⟩
  · simp (disch := omega) only [upd_at, upd_ne, p2_at, p2_ne, h.s0, h.s1, h.s2, h.s3, h.s4, h.s5, h.s6, h.s7, h.s8, h.s9, h.s10, h.s11, h.s12, h.s13, h.s14, and_self, and_true, true_and, e9,ep]
  · simp (disch := omega) only [upd_at, upd_ne, p2_at, p2_ne] at hi9
    have hh := h.2.1 i9 hi9
    simp (disch := omega) only [upd_at, upd_ne, p2_at, p2_ne, hh, and_self, and_true, true_and]
  · simp (disch := omega) only [upd_at, upd_ne, p2_at, p2_ne] at hb9
    have hh := h.2.2.1 b9 hb9
    simp (disch := omega) only [upd_at, upd_ne, p2_at, p2_ne, hh, and_self, and_true, true_and]
  · simp (disch := omega) only [upd_at, upd_ne, p2_at, p2_ne] at hq9
    have hh := h.2.2.2.1 q9 hq9
    by_cases e9_ : q9 = p
    · subst e9_
      simp (disch := omega) only [upd_at, upd_ne, p2_at, p2_ne, hh, and_self, and_true, true_and, e9,ep]
    · simp (disch := omega) only [upd_at, upd_ne, p2_at, p2_ne, hh, and_self, and_true, true_and]
  · simp (disch := omega) only [upd_at, upd_ne, p2_at, p2_ne] at hk9
    have hh := h.2.2.2.2 k9 hk9
    simp (disch := omega) only [upd_at, upd_ne, p2_at, p2_ne, hh, and_self, and_true, true_and]
-- a card is lost
def Glos (G : Gd) (p : Nat) : Gd := p2 (p2 G 28 (G 20 p).toInt.toNat 1) 20 p (-1)
def Wlos (w : Rw) (p : Nat) : Rw := upd (upd w (436 + 2 * (w (76 + 12 * p + 5)).toInt.toNat + 1) 1) (76 + 12 * p + 5) (-1)
theorem x_block {σ : Sig} {n : Nat} {G : Gd} {p : Int32} (hp : 0 ≤ p.toInt ∧ p.toInt < 30) (hc : 0 ≤ (G 20 p.toInt.toNat).toInt ∧ (G 20 p.toInt.toNat).toInt < (G 5 0).toInt) (hk : (G 5 0).toInt ≤ 50) : f4_blockCardOf n p (xg σ n G) = some (G 20 p.toInt.toNat, xg σ n (Glos G p.toInt.toNat)) := by
  have hp' : 0 ≤ p.toInt ∧ p.toInt < ((30 : Nat) : Int) := hp
  have hc' : 0 ≤ (G 20 p.toInt.toNat).toInt ∧ (G 20 p.toInt.toNat).toInt < ((50 : Nat) : Int) := by omega
  unfold f4_blockCardOf f4_blockCardOf_b31 Glos
  simp only [nm_ap, bnd_ap, bns_ap, bnx_ap0, bnx_ap1, bnx_ap2, bnx_ap3, bnx_ap4, gz_0, gz_1, dvd_96, dvd_2, dvd_10000, rmd_96, rmd_8, xg_at, xg_0, mr_at, up_xg, up_mr, narz_0, narz_1, i10, i01, i11, i00, ↓reduceIte, e10, e01, e50, e51, e20, e60, e70, e30, e40, Classical.not_not, not_true_eq_false, not_false_eq_true, ald_in hp', x_has2, hc, and_self, ast_in hc', ast_in hp']
theorem x_block0 {σ : Sig} {n : Nat} {G : Gd} {p : Int32} (hp : 0 ≤ p.toInt ∧ p.toInt < 30) (hc : (G 20 p.toInt.toNat).toInt = -1) : f4_blockCardOf n p (xg σ n G) = some (G 20 p.toInt.toNat, xg σ n G) := by
  have hp' : 0 ≤ p.toInt ∧ p.toInt < ((30 : Nat) : Int) := hp
  have hv : (-1 : Int32) = G 20 p.toInt.toNat := ti_ext (by rw [hc]; rfl)
  have hn : ¬ (0 ≤ (G 20 p.toInt.toNat).toInt ∧ (G 20 p.toInt.toNat).toInt < (G 5 0).toInt) := by omega
  unfold f4_blockCardOf f4_blockCardOf_b31
  simp only [nm_ap, bnd_ap, bns_ap, bnx_ap0, bnx_ap1, bnx_ap2, bnx_ap3, bnx_ap4, gz_0, gz_1, dvd_96, dvd_2, dvd_10000, rmd_96, rmd_8, xg_at, xg_0, mr_at, up_xg, up_mr, narz_0, narz_1, i10, i01, i11, i00, ↓reduceIte, e10, e01, e50, e51, e20, e60, e70, e30, e40, Classical.not_not, not_true_eq_false, not_false_eq_true, ald_in hp', x_has2, hn, ast_in hp', hv, p2_self]
theorem m_lose {τ : Sig} {w : Rw} {p : Int32} (hp : 0 ≤ p.toInt ∧ p.toInt < 30) (hc : 0 ≤ (w (76 + 12 * p.toInt.toNat + 5)).toInt ∧ (w (76 + 12 * p.toInt.toNat + 5)).toInt < 50) : f12_lose p (mr τ w) = some (w (76 + 12 * p.toInt.toNat + 5), mr τ (Wlos w p.toInt.toNat)) := by
  obtain ⟨h1, h2, h3, h4, h5, h6⟩ := m_kx hc
  unfold f12_lose Wlos
  simp only [nm_ap, bnd_ap, bns_ap, bnx_ap0, bnx_ap1, bnx_ap2, bnx_ap3, bnx_ap4, gz_0, gz_1, dvd_96, dvd_2, dvd_10000, rmd_96, rmd_8, xg_at, xg_0, mr_at, up_xg, up_mr, narz_0, narz_1, i10, i01, i11, i00, ↓reduceIte, e10, e01, e50, e51, e20, e60, e70, e30, e40, Classical.not_not, not_true_eq_false, not_false_eq_true, mo_5 hp, ast_in (show 0 ≤ (436 + 2 * w (76 + 12 * p.toInt.toNat + 5) + 1).toInt ∧ (436 + 2 * w (76 + 12 * p.toInt.toNat + 5) + 1).toInt < ((536 : Nat) : Int) from ⟨h5, h6⟩), h2, mp_5 hp]
theorem rg_los {G : Gd} {w : Rw} (h : RG G w) {p : Nat} (hp : (p : Int) < (G 4 0).toInt) (hc : 0 ≤ (G 20 p).toInt ∧ (G 20 p).toInt < (G 5 0).toInt) (hB : Bd G) : RG (Glos G p) (Wlos w p) := by
  have ep := h.p5 hp
  unfold Glos Wlos
  rw [ep]
  have hcn : (((G 20 p).toInt.toNat : Nat) : Int) < (G 5 0).toInt := by omega
  generalize (G 20 p).toInt.toNat = c at hcn ⊢
  refine ⟨?_, fun i9 hi9 => ?_, fun b9 hb9 => ?_, fun q9 hq9 => ?_, fun k9 hk9 => ?_⟩
  · simp (disch := omega) only [upd_at, upd_ne, p2_at, p2_ne, h.s0, h.s1, h.s2, h.s3, h.s4, h.s5, h.s6, h.s7, h.s8, h.s9, h.s10, h.s11, h.s12, h.s13, h.s14, and_self, and_true, true_and]
  · simp (disch := omega) only [upd_at, upd_ne, p2_at, p2_ne] at hi9
    have hh := h.2.1 i9 hi9
    simp (disch := omega) only [upd_at, upd_ne, p2_at, p2_ne, hh, and_self, and_true, true_and]
  · simp (disch := omega) only [upd_at, upd_ne, p2_at, p2_ne] at hb9
    have hh := h.2.2.1 b9 hb9
    simp (disch := omega) only [upd_at, upd_ne, p2_at, p2_ne, hh, and_self, and_true, true_and]
  · simp (disch := omega) only [upd_at, upd_ne, p2_at, p2_ne] at hq9
    have hh := h.2.2.2.1 q9 hq9
    by_cases e9_ : q9 = p
    · subst e9_
      simp (disch := omega) only [upd_at, upd_ne, p2_at, p2_ne, hh, and_self, and_true, true_and]
    · simp (disch := omega) only [upd_at, upd_ne, p2_at, p2_ne, hh, and_self, and_true, true_and]
  · simp (disch := omega) only [upd_at, upd_ne, p2_at, p2_ne] at hk9
    have hh := h.2.2.2.2 k9 hk9
    by_cases e9_ : k9 = c
    · subst e9_
      simp (disch := omega) only [upd_at, upd_ne, p2_at, p2_ne, hh, and_self, and_true, true_and]
    · simp (disch := omega) only [upd_at, upd_ne, p2_at, p2_ne, hh, and_self, and_true, true_and]
-- a pass is returned
theorem x_ret {σ : Sig} {n : Nat} {G : Gd} {p : Int32} (hp : 0 ≤ p.toInt ∧ p.toInt < 30) : ∀ f : Sig → Option (Int32 × Sig), ast (xg σ n G) (n + 1) 21 30 p (vp_nar .boolean 1) f = f (xg σ n (p2 G 21 p.toInt.toNat 1)) := by
  intro f
  rw [ast_in hp, narz_1, up_xg]
theorem rg_ret {G : Gd} {w : Rw} (h : RG G w) {p : Nat} (hp : (p : Int) < (G 4 0).toInt) (hB : Bd G) : RG (p2 G 21 p 1) (upd w (76 + 12 * p + 6) 1) := by
  refine ⟨?_, fun i9 hi9 => ?_, fun b9 hb9 => ?_, fun q9 hq9 => ?_, fun k9 hk9 => ?_⟩
  · simp (disch := omega) only [upd_at, upd_ne, p2_at, p2_ne, h.s0, h.s1, h.s2, h.s3, h.s4, h.s5, h.s6, h.s7, h.s8, h.s9, h.s10, h.s11, h.s12, h.s13, h.s14, and_self, and_true, true_and]
  · simp (disch := omega) only [upd_at, upd_ne, p2_at, p2_ne] at hi9
    have hh := h.2.1 i9 hi9
    simp (disch := omega) only [upd_at, upd_ne, p2_at, p2_ne, hh, and_self, and_true, true_and]
  · simp (disch := omega) only [upd_at, upd_ne, p2_at, p2_ne] at hb9
    have hh := h.2.2.1 b9 hb9
    simp (disch := omega) only [upd_at, upd_ne, p2_at, p2_ne, hh, and_self, and_true, true_and]
  · simp (disch := omega) only [upd_at, upd_ne, p2_at, p2_ne] at hq9
    have hh := h.2.2.2.1 q9 hq9
    by_cases e9_ : q9 = p
    · subst e9_
      simp (disch := omega) only [upd_at, upd_ne, p2_at, p2_ne, hh, and_self, and_true, true_and]
    · simp (disch := omega) only [upd_at, upd_ne, p2_at, p2_ne, hh, and_self, and_true, true_and]
  · simp (disch := omega) only [upd_at, upd_ne, p2_at, p2_ne] at hk9
    have hh := h.2.2.2.2 k9 hk9
    simp (disch := omega) only [upd_at, upd_ne, p2_at, p2_ne, hh, and_self, and_true, true_and]
-- a visit
def Gvis (G : Gd) (p b : Nat) (bi : Int32) : Gd := p2 (p2 (p2 (p2 (p2 (p2 G 13 b (G 13 b + 1)) 14 b (G 14 b + 1)) 22 p (G 22 p ||| (1 : Int32) <<< ((Td G - G 16 p) &&& 31))) 23 p (G 23 p + 1)) 24 p (G 1 0)) 25 p bi
def Wvis (w : Rw) (p b : Nat) (bi : Int32) (td : Int32) : Rw := upd (upd (upd (upd (upd (upd w (76 + 12 * p + 7) (w (76 + 12 * p + 7) ||| (1 : Int32) <<< ((td - w (76 + 12 * p + 1)) &&& 31))) (76 + 12 * p + 8) (w (76 + 12 * p + 8) + 1)) (76 + 12 * p + 9) (w 4)) (76 + 12 * p + 10) bi) (20 + 7 * b + 5) (w (20 + 7 * b + 5) + 1)) (20 + 7 * b + 6) (w (20 + 7 * b + 6) + 1)
def Gsho (G : Gd) (k b : Nat) (bi : Int32) : Gd := if Rf G k b = 2 then p2 G 6 5 (G 6 5 + 1) else if Rf G k b = 0 then Gvis G (G 27 k).toInt.toNat b bi else G
theorem x_show {σ : Sig} {n : Nat} {G : Gd} (hi : Iv G) {k b : Int32} (hk : 0 ≤ k.toInt ∧ k.toInt < (G 5 0).toInt) (hb : 0 ≤ b.toInt ∧ b.toInt < (G 3 0).toInt) : f4_showCard n k b (xg σ n G) = some (Rf G k.toInt.toNat b.toInt.toNat, xg σ n (Gsho G k.toInt.toNat b.toInt.toNat b)) := by
  have h0 := hi.1
  have hk5 : 0 ≤ k.toInt ∧ k.toInt < ((50 : Nat) : Int) := by omega
  have hb8 : 0 ≤ b.toInt ∧ b.toInt < ((8 : Nat) : Int) := by omega
  have h1 := hi.k (k := k.toInt.toNat) (by omega)
  have hp3 : 0 ≤ (G 27 k.toInt.toNat).toInt ∧ (G 27 k.toInt.toNat).toInt < ((30 : Nat) : Int) := by omega
  unfold f4_showCard f4_showCard_b25 Gsho
  simp only [nm_ap, bnd_ap, bns_ap, bnx_ap0, bnx_ap1, bnx_ap2, bnx_ap3, bnx_ap4, gz_0, gz_1, dvd_96, dvd_2, dvd_10000, rmd_96, rmd_8, xg_at, xg_0, mr_at, up_xg, up_mr, narz_0, narz_1, i10, i01, i11, i00, ↓reduceIte, e10, e01, e50, e51, e20, e60, e70, e30, e40, Classical.not_not, not_true_eq_false, not_false_eq_true, x_refusal hi hk hb]
  by_cases h2 : Rf G k.toInt.toNat b.toInt.toNat = 2
  · simp only [h2, reduceIte, e20, if_false]
  · simp only [h2, if_false]
    by_cases h3 : Rf G k.toInt.toNat b.toInt.toNat = 0
    · unfold f0_countVisit f7_countVisit Gvis
      have ht : ∀ (σ : Sig) (G' : Gd), G' 1 0 = G 1 0 → f3_today n (xg σ n G') = some (Td G) := fun σ G' e => by rw [x_today]; unfold Td; rw [e]
      simp only [h3, reduceIte]
      simp only [nm_ap, bnd_ap, bns_ap, bnx_ap0, bnx_ap1, bnx_ap2, bnx_ap3, bnx_ap4, gz_0, gz_1, dvd_96, dvd_2, dvd_10000, rmd_96, rmd_8, xg_at, xg_0, mr_at, up_xg, up_mr, narz_0, narz_1, i10, i01, i11, i00, ↓reduceIte, e10, e01, e50, e51, e20, e60, e70, e30, e40, Classical.not_not, not_true_eq_false, not_false_eq_true, ald_in hb8, ast_in hb8, p2_if, Nat.reduceEqDiff, ↓reduceIte, ald_in hk5]
      rw [ht _ _ (by simp only [p2_if, Nat.reduceEqDiff, ↓reduceIte])]
      simp only [nm_ap, bnd_ap, bns_ap, bnx_ap0, bnx_ap1, bnx_ap2, bnx_ap3, bnx_ap4, gz_0, gz_1, dvd_96, dvd_2, dvd_10000, rmd_96, rmd_8, xg_at, xg_0, mr_at, up_xg, up_mr, narz_0, narz_1, i10, i01, i11, i00, ↓reduceIte, e10, e01, e50, e51, e20, e60, e70, e30, e40, Classical.not_not, not_true_eq_false, not_false_eq_true, ald_in hp3, ast_in hp3, p2_if, Nat.reduceEqDiff, ↓reduceIte]
    · simp only [h3, if_false]
theorem m_show {G : Gd} {w : Rw} (h : RG G w) (hi : Iv G) (τ : Sig) {k b : Int32} (hk : 0 ≤ k.toInt ∧ k.toInt < (G 5 0).toInt) (hb : 0 ≤ b.toInt ∧ b.toInt < (G 3 0).toInt) : f12_show k b (mr τ w) = some (Rf G k.toInt.toNat b.toInt.toNat, mr τ (if Rf G k.toInt.toNat b.toInt.toNat = 2 then upd w 13 (w 13 + 1) else if Rf G k.toInt.toNat b.toInt.toNat = 0 then Wvis w (G 27 k.toInt.toNat).toInt.toNat b.toInt.toNat b (Td G) else w)) := by
  have h0 := hi.1
  have hk5 : 0 ≤ k.toInt ∧ k.toInt < 50 := by omega
  have hkn : ((k.toInt.toNat : Nat) : Int) < (G 5 0).toInt := by omega
  have hb8 : 0 ≤ b.toInt ∧ b.toInt < 8 := by omega
  have h1 := hi.k hkn
  have hp3 : 0 ≤ (G 27 k.toInt.toNat).toInt ∧ (G 27 k.toInt.toNat).toInt < 30 := by omega
  unfold f12_show f12_show_b25
  simp only [nm_ap, bnd_ap, bns_ap, bnx_ap0, bnx_ap1, bnx_ap2, bnx_ap3, bnx_ap4, gz_0, gz_1, dvd_96, dvd_2, dvd_10000, rmd_96, rmd_8, xg_at, xg_0, mr_at, up_xg, up_mr, narz_0, narz_1, i10, i01, i11, i00, ↓reduceIte, e10, e01, e50, e51, e20, e60, e70, e30, e40, Classical.not_not, not_true_eq_false, not_false_eq_true, al_0, al_1, al_2, al_3, al_4, al_5, al_6, al_7, al_8, al_9, al_10, al_11, al_12, al_13, al_14, as_0, as_1, as_2, as_3, as_4, as_5, as_6, as_7, as_8, as_9, as_10, as_11, as_12, as_13, as_14, m_refusal h hi τ hk hb, Int32.add_zero, upd_self]
  by_cases h2 : Rf G k.toInt.toNat b.toInt.toNat = 2
  · simp only [h2, reduceIte, e20, if_false]
  · simp only [h2, if_false]
    by_cases h3 : Rf G k.toInt.toNat b.toInt.toNat = 0
    · unfold Wvis
      simp only [h3, reduceIte, m_today h]
      simp only [nm_ap, bnd_ap, bns_ap, bnx_ap0, bnx_ap1, bnx_ap2, bnx_ap3, bnx_ap4, gz_0, gz_1, dvd_96, dvd_2, dvd_10000, rmd_96, rmd_8, xg_at, xg_0, mr_at, up_xg, up_mr, narz_0, narz_1, i10, i01, i11, i00, ↓reduceIte, e10, e01, e50, e51, e20, e60, e70, e30, e40, Classical.not_not, not_true_eq_false, not_false_eq_true, al_0, al_1, al_2, al_3, al_4, al_5, al_6, al_7, al_8, al_9, al_10, al_11, al_12, al_13, al_14, m_passOfCard hk5, h.k0 hkn, mo_7 hp3, mo_1 hp3, mp_7 hp3, mo_8 hp3, mp_8 hp3, mp_9 hp3, mp_10 hp3, mb_5 hb8, mq_5 hb8, mb_6 hb8, mq_6 hb8]
      have hbn : b.toInt.toNat < 8 := by omega
      have hpn : (G 27 k.toInt.toNat).toInt.toNat < 30 := by omega
      clear h0 h1
      simp (disch := omega) only [upd_at, upd_ne, p2_at, p2_ne]
    · simp only [h3, if_false]
theorem rg_vis {G : Gd} {w : Rw} (h : RG G w) {p b : Nat} (hp : (p : Int) < (G 4 0).toInt) (hb : (b : Int) < (G 3 0).toInt) (bi : Int32) (hB : Bd G) : RG (Gvis G p b bi) (Wvis w p b bi (Td G)) := by
  have e1 := h.p7 hp
  have e2 := h.p1 hp
  have e3 := h.p8 hp
  have e4 := h.b5 hb
  have e5 := h.b6 hb
  have e6 := h.s4
  unfold Gvis Wvis
  rw [e1, e2, e3, e4, e5, e6]
  generalize G 22 p ||| (1 : Int32) <<< ((Td G - G 16 p) &&& 31) = us
  have hbb := hb
  clear hb
  refine ⟨?_, fun i9 hi9 => ?_, fun b9 hb9 => ?_, fun q9 hq9 => ?_, fun k9 hk9 => ?_⟩
  · simp (disch := omega) only [upd_at, upd_ne, p2_at, p2_ne, h.s0, h.s1, h.s2, h.s3, h.s4, h.s5, h.s6, h.s7, h.s8, h.s9, h.s10, h.s11, h.s12, h.s13, h.s14, and_self, and_true, true_and]
  · simp (disch := omega) only [upd_at, upd_ne, p2_at, p2_ne] at hi9
    have hh := h.2.1 i9 hi9
    simp (disch := omega) only [upd_at, upd_ne, p2_at, p2_ne, hh, and_self, and_true, true_and]
  · simp (disch := omega) only [upd_at, upd_ne, p2_at, p2_ne] at hb9
    have hh := h.2.2.1 b9 hb9
    by_cases e9_ : b9 = b
    · subst e9_
      simp (disch := omega) only [upd_at, upd_ne, p2_at, p2_ne, hh, and_self, and_true, true_and]
    · simp (disch := omega) only [upd_at, upd_ne, p2_at, p2_ne, hh, and_self, and_true, true_and]
  · simp (disch := omega) only [upd_at, upd_ne, p2_at, p2_ne] at hq9
    have hh := h.2.2.2.1 q9 hq9
    by_cases e9_ : q9 = p
    · subst e9_
      simp (disch := omega) only [upd_at, upd_ne, p2_at, p2_ne, hh, and_self, and_true, true_and]
    · simp (disch := omega) only [upd_at, upd_ne, p2_at, p2_ne, hh, and_self, and_true, true_and]
  · simp (disch := omega) only [upd_at, upd_ne, p2_at, p2_ne] at hk9
    have hh := h.2.2.2.2 k9 hk9
    simp (disch := omega) only [upd_at, upd_ne, p2_at, p2_ne, hh, and_self, and_true, true_and]
theorem rg_alarm {G : Gd} {w : Rw} (h : RG G w) (hB : Bd G) : RG (p2 G 6 5 (G 6 5 + 1)) (upd w 13 (w 13 + 1)) := by
  refine ⟨?_, fun i9 hi9 => ?_, fun b9 hb9 => ?_, fun q9 hq9 => ?_, fun k9 hk9 => ?_⟩
  · simp (disch := omega) only [upd_at, upd_ne, p2_at, p2_ne, h.s0, h.s1, h.s2, h.s3, h.s4, h.s5, h.s6, h.s7, h.s8, h.s9, h.s10, h.s11, h.s12, h.s13, h.s14, and_self, and_true, true_and]
  · simp (disch := omega) only [upd_at, upd_ne, p2_at, p2_ne] at hi9
    have hh := h.2.1 i9 hi9
    simp (disch := omega) only [upd_at, upd_ne, p2_at, p2_ne, hh, and_self, and_true, true_and]
  · simp (disch := omega) only [upd_at, upd_ne, p2_at, p2_ne] at hb9
    have hh := h.2.2.1 b9 hb9
    simp (disch := omega) only [upd_at, upd_ne, p2_at, p2_ne, hh, and_self, and_true, true_and]
  · simp (disch := omega) only [upd_at, upd_ne, p2_at, p2_ne] at hq9
    have hh := h.2.2.2.1 q9 hq9
    simp (disch := omega) only [upd_at, upd_ne, p2_at, p2_ne, hh, and_self, and_true, true_and]
  · simp (disch := omega) only [upd_at, upd_ne, p2_at, p2_ne] at hk9
    have hh := h.2.2.2.2 k9 hk9
    simp (disch := omega) only [upd_at, upd_ne, p2_at, p2_ne, hh, and_self, and_true, true_and]
-- blooms are plucked
def Gplk (G : Gd) (p b : Nat) (f bl : Int32) : Gd := p2 (p2 (p2 (p2 G 12 b (G 12 b - bl)) 26 p (G 26 p + f)) 6 2 (G 6 2 + f)) 6 4 (G 6 4 + bl)
def Wplk (w : Rw) (p b : Nat) (f bl : Int32) : Rw := upd (upd (upd (upd w (20 + 7 * b + 4) (w (20 + 7 * b + 4) - bl)) (76 + 12 * p + 11) (w (76 + 12 * p + 11) + f)) 12 (w 12 + bl)) 14 (w 14 + f)
theorem x_pluck {σ : Sig} {n : Nat} {G : Gd} (hi : Iv G) {k bl : Int32} (hk : 0 ≤ k.toInt ∧ k.toInt < (G 5 0).toInt) (hc : CpP G k.toInt.toNat bl) : f4_pluckBlooms n k bl (xg σ n G) = some (Fn G (G 25 (G 27 k.toInt.toNat).toInt.toNat).toInt.toNat bl, xg σ n (Gplk G (G 27 k.toInt.toNat).toInt.toNat (G 25 (G 27 k.toInt.toNat).toInt.toNat).toInt.toNat (Fn G (G 25 (G 27 k.toInt.toNat).toInt.toNat).toInt.toNat bl) bl)) := by
  have h0 := hi.1
  have hk5 : 0 ≤ k.toInt ∧ k.toInt < ((50 : Nat) : Int) := by omega
  have h1 := hi.k (k := k.toInt.toNat) (by omega)
  have hp3 : 0 ≤ (G 27 k.toInt.toNat).toInt ∧ (G 27 k.toInt.toNat).toInt < ((30 : Nat) : Int) := by omega
  have h2 := hi.p (p := (G 27 k.toInt.toNat).toInt.toNat) (by omega)
  have hc2 := hc.2.1
  have hb8 : 0 ≤ (G 25 (G 27 k.toInt.toNat).toInt.toNat).toInt ∧ (G 25 (G 27 k.toInt.toNat).toInt.toNat).toInt < ((8 : Nat) : Int) := by omega
  unfold f4_pluckBlooms Gplk
  simp only [nm_ap, bnd_ap, bns_ap, bnx_ap0, bnx_ap1, bnx_ap2, bnx_ap3, bnx_ap4, gz_0, gz_1, dvd_96, dvd_2, dvd_10000, rmd_96, rmd_8, xg_at, xg_0, mr_at, up_xg, up_mr, narz_0, narz_1, i10, i01, i11, i00, ↓reduceIte, e10, e01, e50, e51, e20, e60, e70, e30, e40, Classical.not_not, not_true_eq_false, not_false_eq_true, ald_in hk5, ald_in hp3, x_fine hb8]
  simp only [nm_ap, bnd_ap, bns_ap, bnx_ap0, bnx_ap1, bnx_ap2, bnx_ap3, bnx_ap4, gz_0, gz_1, dvd_96, dvd_2, dvd_10000, rmd_96, rmd_8, xg_at, xg_0, mr_at, up_xg, up_mr, narz_0, narz_1, i10, i01, i11, i00, ↓reduceIte, e10, e01, e50, e51, e20, e60, e70, e30, e40, Classical.not_not, not_true_eq_false, not_false_eq_true, ald_in hb8, ast_in hb8, ald_in hp3, ast_in hp3, p2_if, Nat.reduceEqDiff, ↓reduceIte]
  simp (disch := omega) only [upd_at, upd_ne, p2_at, p2_ne]
theorem m_take {G : Gd} {w : Rw} (h : RG G w) (hi : Iv G) (τ : Sig) {k bl : Int32} (hk : 0 ≤ k.toInt ∧ k.toInt < (G 5 0).toInt) (hc : CpP G k.toInt.toNat bl) : f12_take k bl (mr τ w) = some (Fn G (G 25 (G 27 k.toInt.toNat).toInt.toNat).toInt.toNat bl, mr τ (Wplk w (G 27 k.toInt.toNat).toInt.toNat (G 25 (G 27 k.toInt.toNat).toInt.toNat).toInt.toNat (Fn G (G 25 (G 27 k.toInt.toNat).toInt.toNat).toInt.toNat bl) bl)) := by
  have h0 := hi.1
  have hk5 : 0 ≤ k.toInt ∧ k.toInt < 50 := by omega
  have hkn : ((k.toInt.toNat : Nat) : Int) < (G 5 0).toInt := by omega
  have h1 := hi.k hkn
  have hp3 : 0 ≤ (G 27 k.toInt.toNat).toInt ∧ (G 27 k.toInt.toNat).toInt < 30 := by omega
  have hpn : (((G 27 k.toInt.toNat).toInt.toNat : Nat) : Int) < (G 4 0).toInt := by omega
  have h2 := hi.p hpn
  have hc2 := hc.2.1
  have hb : 0 ≤ (G 25 (G 27 k.toInt.toNat).toInt.toNat).toInt ∧ (G 25 (G 27 k.toInt.toNat).toInt.toNat).toInt < (G 3 0).toInt := by omega
  have hb8 : 0 ≤ (G 25 (G 27 k.toInt.toNat).toInt.toNat).toInt ∧ (G 25 (G 27 k.toInt.toNat).toInt.toNat).toInt < 8 := by omega
  unfold f12_take Wplk
  simp only [nm_ap, bnd_ap, bns_ap, bnx_ap0, bnx_ap1, bnx_ap2, bnx_ap3, bnx_ap4, gz_0, gz_1, dvd_96, dvd_2, dvd_10000, rmd_96, rmd_8, xg_at, xg_0, mr_at, up_xg, up_mr, narz_0, narz_1, i10, i01, i11, i00, ↓reduceIte, e10, e01, e50, e51, e20, e60, e70, e30, e40, Classical.not_not, not_true_eq_false, not_false_eq_true, m_passOfCard hk5, h.k0 hkn, mo_10 hp3, h.p10 hpn, m_fine h hi τ hb]
  simp only [nm_ap, bnd_ap, bns_ap, bnx_ap0, bnx_ap1, bnx_ap2, bnx_ap3, bnx_ap4, gz_0, gz_1, dvd_96, dvd_2, dvd_10000, rmd_96, rmd_8, xg_at, xg_0, mr_at, up_xg, up_mr, narz_0, narz_1, i10, i01, i11, i00, ↓reduceIte, e10, e01, e50, e51, e20, e60, e70, e30, e40, Classical.not_not, not_true_eq_false, not_false_eq_true, al_0, al_1, al_2, al_3, al_4, al_5, al_6, al_7, al_8, al_9, al_10, al_11, al_12, al_13, al_14, as_0, as_1, as_2, as_3, as_4, as_5, as_6, as_7, as_8, as_9, as_10, as_11, as_12, as_13, as_14, mb_4 hb8, mq_4 hb8, mo_11 hp3, mp_11 hp3]
  have hbn : (G 25 (G 27 k.toInt.toNat).toInt.toNat).toInt.toNat < 8 := by omega
  have hpn : (G 27 k.toInt.toNat).toInt.toNat < 30 := by omega
  clear h0 h1 h2
  simp (disch := omega) only [upd_at, upd_ne, p2_at, p2_ne]
theorem rg_plk {G : Gd} {w : Rw} (h : RG G w) {p b : Nat} (hp : (p : Int) < (G 4 0).toInt) (hb : (b : Int) < (G 3 0).toInt) (f bl : Int32) (hB : Bd G) : RG (Gplk G p b f bl) (Wplk w p b f bl) := by
  have e1 := h.p11 hp
  have e2 := h.b4 hb
  unfold Gplk Wplk
  have hbb := hb
  clear hb
  refine ⟨?_, fun i9 hi9 => ?_, fun b9 hb9 => ?_, fun q9 hq9 => ?_, fun k9 hk9 => ?_⟩
  · simp (disch := omega) only [upd_at, upd_ne, p2_at, p2_ne, h.s0, h.s1, h.s2, h.s3, h.s4, h.s5, h.s6, h.s7, h.s8, h.s9, h.s10, h.s11, h.s12, h.s13, h.s14, and_self, and_true, true_and, e1,e2]
  · simp (disch := omega) only [upd_at, upd_ne, p2_at, p2_ne] at hi9
    have hh := h.2.1 i9 hi9
    simp (disch := omega) only [upd_at, upd_ne, p2_at, p2_ne, hh, and_self, and_true, true_and]
  · simp (disch := omega) only [upd_at, upd_ne, p2_at, p2_ne] at hb9
    have hh := h.2.2.1 b9 hb9
    by_cases e9_ : b9 = b
    · subst e9_
      simp (disch := omega) only [upd_at, upd_ne, p2_at, p2_ne, hh, and_self, and_true, true_and, e1,e2]
    · simp (disch := omega) only [upd_at, upd_ne, p2_at, p2_ne, hh, and_self, and_true, true_and]
  · simp (disch := omega) only [upd_at, upd_ne, p2_at, p2_ne] at hq9
    have hh := h.2.2.2.1 q9 hq9
    by_cases e9_ : q9 = p
    · subst e9_
      simp (disch := omega) only [upd_at, upd_ne, p2_at, p2_ne, hh, and_self, and_true, true_and, e1,e2]
    · simp (disch := omega) only [upd_at, upd_ne, p2_at, p2_ne, hh, and_self, and_true, true_and]
  · simp (disch := omega) only [upd_at, upd_ne, p2_at, p2_ne] at hk9
    have hh := h.2.2.2.2 k9 hk9
    simp (disch := omega) only [upd_at, upd_ne, p2_at, p2_ne, hh, and_self, and_true, true_and]
