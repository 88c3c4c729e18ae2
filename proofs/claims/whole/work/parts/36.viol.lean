/-! THE MATHEMATICS, 17: violations; reports -/
def va1 (G : Gd) (p : Nat) : Int32 := if (G 17 p).toInt < (bitc (G 22 p)).toInt then 1 else 0
def va2 (G : Gd) (p : Nat) : Int32 := if ¬ (G 20 p).toInt = -1 ∧ ¬ ((G 28 (G 20 p).toInt.toNat).toInt = 0 ∧ G 27 (G 20 p).toInt.toNat = Int32.ofNat p) then 1 else 0
def va3 (G : Gd) (p : Nat) : Int32 := if ¬ (G 20 p).toInt = -1 ∧ ¬ (G 21 p).toInt = 0 then 1 else 0
def vap (G : Gd) : Nat → Int32
  | 0 => 0
  | k + 1 => vap G k + va1 G k + va2 G k + va3 G k
def vb1 (G : Gd) (b : Nat) : Int32 := if (G 9 b).toInt < (G 14 b).toInt ∨ (G 12 b).toInt < 0 ∨ 50 < (G 12 b).toInt then 1 else 0
theorem x_openCard {σ : Sig} {n : Nat} {G : Gd} {k p : Int32} (hk : 0 ≤ k.toInt ∧ k.toInt < (G 5 0).toInt) (hk5 : (G 5 0).toInt ≤ 50) : f2_isOpenCardOf n k p (xg σ n G) = some (if (G 28 k.toInt.toNat).toInt = 0 ∧ G 27 k.toInt.toNat = p then 1 else 0) := by
  have kx : 0 ≤ k.toInt ∧ k.toInt < ((50 : Nat) : Int) := by omega
  unfold f2_isOpenCardOf
  simp only [nm_ap, bnd_ap, bns_ap, bnx_ap0, bnx_ap1, bnx_ap2, bnx_ap3, bnx_ap4, gz_0, gz_1, dvd_96, dvd_2, dvd_10000, rmd_96, rmd_8, xg_at, xg_0, mr_at, up_xg, up_mr, narz_0, narz_1, i10, i01, i11, i00, ↓reduceIte, e10, e01, e50, e51, e20, e60, e70, e30, e40, Classical.not_not, not_true_eq_false, not_false_eq_true, x_has2, hk, and_self, ald_in kx]
  by_cases h1 : G 28 k.toInt.toNat = 0
  · have h1' : (G 28 k.toInt.toNat).toInt = 0 := by rw [h1]; rfl
    by_cases h2 : G 27 k.toInt.toNat = p
    · rw [if_pos h1, if_pos h2, if_pos ⟨h1', h2⟩]
    · rw [if_pos h1, if_neg h2, if_neg (fun z => h2 z.2)]
  · have h1' : ¬ (G 28 k.toInt.toNat).toInt = 0 := fun e => h1 (ti_ext (by rw [e]; rfl))
    rw [if_neg h1, if_neg (fun z => h1' z.1)]
theorem x_vp_l {σ : Sig} {n : Nat} {G : Gd} (hi : Iv G) : ∀ (fu k : Nat), k ≤ (G 4 0).toInt.toNat → (G 4 0).toInt.toNat < fu + k → f4_countWrongPasses_b4 n fu (vap G k) (Int32.ofNat k) (xg σ n G) = some (vap G (G 4 0).toInt.toNat) := by
  have h0 := hi.1
  intro fu
  induction fu with
  | zero => intro k h1 h2; omega
  | succ fu ih =>
    intro k h1 h2
    have ek := oN k (by omega)
    rw [f4_countWrongPasses_b4]
    simp only [nm_ap, bnd_ap, bns_ap, bnx_ap0, bnx_ap1, bnx_ap2, bnx_ap3, bnx_ap4, gz_0, gz_1, dvd_96, dvd_2, dvd_10000, rmd_96, rmd_8, xg_at, xg_0, mr_at, up_xg, up_mr, narz_0, narz_1, i10, i01, i11, i00, ↓reduceIte, e10, e01, e50, e51, e20, e60, e70, e30, e40, Classical.not_not, not_true_eq_false, not_false_eq_true]
    by_cases hk : k = (G 4 0).toInt.toNat
    · rw [if_pos (by rw [Int32.le_iff_toInt_le, ek]; omega), hk]
    · have q := ih (k + 1) (by omega) (by omega)
      have k3 : 0 ≤ (Int32.ofNat k).toInt ∧ (Int32.ofNat k).toInt < 30 := by rw [ek]; omega
      have k30 : 0 ≤ (Int32.ofNat k).toInt ∧ (Int32.ofNat k).toInt < ((30 : Nat) : Int) := k3
      have hp := hi.p (p := k) (by omega)
      have en : (Int32.ofNat k).toInt.toNat = k := by rw [ek]; rfl
      rw [if_neg (by rw [Int32.le_iff_toInt_le, ek]; omega), x_used k3]
      simp only [nm_ap, bnd_ap, bns_ap, bnx_ap0, bnx_ap1, bnx_ap2, bnx_ap3, bnx_ap4, gz_0, gz_1, dvd_96, dvd_2, dvd_10000, rmd_96, rmd_8, xg_at, xg_0, mr_at, up_xg, up_mr, narz_0, narz_1, i10, i01, i11, i00, ↓reduceIte, e10, e01, e50, e51, e20, e60, e70, e30, e40, Classical.not_not, not_true_eq_false, not_false_eq_true, ald_in k30, en]
      rw [vap] at q
      -- the third
      have t3 : ∀ x, f4_countWrongPasses_b72 n (f4_countWrongPasses_b4 n fu) x (Int32.ofNat k) (xg σ n G) = f4_countWrongPasses_b4 n fu (x + va3 G k) (Int32.ofNat (k + 1)) (xg σ n G) := by
        intro x
        unfold f4_countWrongPasses_b72 f4_countWrongPasses_b98 va3
        rw [x_hasCard k3]
        simp only [nm_ap, bnd_ap, bns_ap, bnx_ap0, bnx_ap1, bnx_ap2, bnx_ap3, bnx_ap4, gz_0, gz_1, dvd_96, dvd_2, dvd_10000, rmd_96, rmd_8, xg_at, xg_0, mr_at, up_xg, up_mr, narz_0, narz_1, i10, i01, i11, i00, ↓reduceIte, e10, e01, e50, e51, e20, e60, e70, e30, e40, Classical.not_not, not_true_eq_false, not_false_eq_true, ald_in k30, en, oN1]
        by_cases c1 : (G 20 k).toInt = -1
        · rw [if_pos c1, if_neg (fun z => z.1 c1), Int32.add_zero]
        · rw [if_neg c1]
          rcases b01 (x := G 21 k) (by omega) with c2 | c2
          · rw [c2, if_pos rfl, if_neg (fun z => z.2 rfl), Int32.add_zero]
          · rw [c2, if_neg (by decide), if_pos ⟨c1, by decide⟩]
      have t2 : ∀ x, f4_countWrongPasses_b38 n (f4_countWrongPasses_b4 n fu) x (Int32.ofNat k) (xg σ n G) = f4_countWrongPasses_b4 n fu (x + va2 G k + va3 G k) (Int32.ofNat (k + 1)) (xg σ n G) := by
        intro x
        unfold f4_countWrongPasses_b38 va2
        rw [x_hasCard k3]
        simp only [nm_ap, bnd_ap, bns_ap, bnx_ap0, bnx_ap1, bnx_ap2, bnx_ap3, bnx_ap4, gz_0, gz_1, dvd_96, dvd_2, dvd_10000, rmd_96, rmd_8, xg_at, xg_0, mr_at, up_xg, up_mr, narz_0, narz_1, i10, i01, i11, i00, ↓reduceIte, e10, e01, e50, e51, e20, e60, e70, e30, e40, Classical.not_not, not_true_eq_false, not_false_eq_true, ald_in k30, en, t3]
        by_cases c1 : (G 20 k).toInt = -1
        · rw [if_pos c1, if_neg (fun z => z.1 c1), Int32.add_zero]
        · rw [if_neg c1, x_openCard (by omega) (by omega)]
          simp only [nm_ap, bnd_ap, bns_ap, bnx_ap0, bnx_ap1, bnx_ap2, bnx_ap3, bnx_ap4, gz_0, gz_1, dvd_96, dvd_2, dvd_10000, rmd_96, rmd_8, xg_at, xg_0, mr_at, up_xg, up_mr, narz_0, narz_1, i10, i01, i11, i00, ↓reduceIte, e10, e01, e50, e51, e20, e60, e70, e30, e40, Classical.not_not, not_true_eq_false, not_false_eq_true]
          by_cases c2 : (G 28 (G 20 k).toInt.toNat).toInt = 0 ∧ G 27 (G 20 k).toInt.toNat = Int32.ofNat k
          · rw [if_neg (fun z => z c2), if_neg (fun z => z.2 c2), Int32.add_zero]
          · rw [if_pos c2, if_pos ⟨c1, c2⟩]
      by_cases c : (G 17 k).toInt < (bitc (G 22 k)).toInt
      · rw [if_neg (by rw [Int32.le_iff_toInt_le]; omega), t2]
        rw [va1, if_pos c] at q
        exact q
      · rw [if_pos (by rw [Int32.le_iff_toInt_le]; omega), t2]
        rw [va1, if_neg c, Int32.add_zero] at q
        exact q
theorem x_vb_l {σ : Sig} {n : Nat} {G : Gd} (hi : Iv G) : ∀ (fu k : Nat), k ≤ (G 3 0).toInt.toNat → (G 3 0).toInt.toNat < fu + k → f0_countWrong_b4 n fu (s32 (vb1 G) k) (Int32.ofNat k) (xg σ n G) = some (s32 (vb1 G) (G 3 0).toInt.toNat) := by
  have h0 := hi.1
  intro fu
  induction fu with
  | zero => intro k h1 h2; omega
  | succ fu ih =>
    intro k h1 h2
    have ek := oN k (by omega)
    rw [f0_countWrong_b4]
    simp only [nm_ap, bnd_ap, bns_ap, bnx_ap0, bnx_ap1, bnx_ap2, bnx_ap3, bnx_ap4, gz_0, gz_1, dvd_96, dvd_2, dvd_10000, rmd_96, rmd_8, xg_at, xg_0, mr_at, up_xg, up_mr, narz_0, narz_1, i10, i01, i11, i00, ↓reduceIte, e10, e01, e50, e51, e20, e60, e70, e30, e40, Classical.not_not, not_true_eq_false, not_false_eq_true]
    by_cases hk : k = (G 3 0).toInt.toNat
    · rw [if_pos (by rw [Int32.le_iff_toInt_le, ek]; omega), hk]
    · have q := ih (k + 1) (by omega) (by omega)
      have k8 : 0 ≤ (Int32.ofNat k).toInt ∧ (Int32.ofNat k).toInt < 8 := by rw [ek]; omega
      have k80 : 0 ≤ (Int32.ofNat k).toInt ∧ (Int32.ofNat k).toInt < ((8 : Nat) : Int) := k8
      have hb := hi.b (b := k) (by omega)
      have en : (Int32.ofNat k).toInt.toNat = k := by rw [ek]; rfl
      have ef : (G 9 k - G 14 k).toInt = (G 9 k).toInt - (G 14 k).toInt := tv_sub rfl rfl (by omega)
      have e0 : (0 : Int32).toInt = 0 := rfl
      have e50 : (50 : Int32).toInt = 50 := rfl
      have nv : vb1 G k = 0 ∨ vb1 G k = 1 := by unfold vb1; split <;> simp
      rw [if_neg (by rw [Int32.le_iff_toInt_le, ek]; omega), x_free k8]
      unfold f0_countWrong_b40 f0_countWrong_b43
      simp only [nm_ap, bnd_ap, bns_ap, bnx_ap0, bnx_ap1, bnx_ap2, bnx_ap3, bnx_ap4, gz_0, gz_1, dvd_96, dvd_2, dvd_10000, rmd_96, rmd_8, xg_at, xg_0, mr_at, up_xg, up_mr, narz_0, narz_1, i10, i01, i11, i00, ↓reduceIte, e10, e01, e50, e51, e20, e60, e70, e30, e40, Classical.not_not, not_true_eq_false, not_false_eq_true, ald_in k80, en, oN1, Int32.lt_iff_toInt_lt, Int32.le_iff_toInt_le, ef, e0, e50]
      rw [s32, vb1] at q
      by_cases c1 : (G 9 k).toInt - (G 14 k).toInt < 0
      · rw [if_pos c1]; rw [if_pos (by omega)] at q; exact q
      · rw [if_neg c1]
        by_cases c2 : (G 12 k).toInt < 0
        · rw [if_pos c2]; rw [if_pos (by omega)] at q; exact q
        · rw [if_neg c2]
          by_cases c3 : (G 12 k).toInt ≤ 50
          · rw [if_pos c3]; rw [if_neg (by omega), Int32.add_zero] at q; exact q
          · rw [if_neg c3]; rw [if_pos (by omega)] at q; exact q
def vs1 (G : Gd) : Int32 := if s32 (G 13) (G 3 0).toInt.toNat = s32 (G 23) (G 4 0).toInt.toNat then 0 else 1
def vs2 (G : Gd) : Int32 := if G 6 2 = G 6 3 + s32 (G 26) (G 4 0).toInt.toNat then 0 else 1
def vAll (G : Gd) : Int32 := vap G (G 4 0).toInt.toNat + s32 (vb1 G) (G 3 0).toInt.toNat + (vs1 G + vs2 G)
theorem x_viol {σ : Sig} {G : Gd} (hi : Iv G) : f11_violations (xg σ 8 G) = some (vAll G) := by
  have h0 := hi.1
  have xs := x_sums (σ := σ) (n := 8) hi
  have q1 : f4_countWrongPasses 8 (xg σ 8 G) = some (vap G (G 4 0).toInt.toNat) := x_vp_l hi FU 0 (by omega) (by unfold FU; omega)
  have q2 : f0_countWrong 8 (xg σ 8 G) = some (s32 (vb1 G) (G 3 0).toInt.toNat) := x_vb_l hi FU 0 (by omega) (by unfold FU; omega)
  have q3 : f4_countWrongSums 8 (xg σ 8 G) = some (vs1 G + vs2 G) := by
    unfold f4_countWrongSums f4_countWrongSums_b22 vs1 vs2
    simp only [nm_ap, bnd_ap, bns_ap, bnx_ap0, bnx_ap1, bnx_ap2, bnx_ap3, bnx_ap4, gz_0, gz_1, dvd_96, dvd_2, dvd_10000, rmd_96, rmd_8, xg_at, xg_0, mr_at, up_xg, up_mr, narz_0, narz_1, i10, i01, i11, i00, ↓reduceIte, e10, e01, e50, e51, e20, e60, e70, e30, e40, Classical.not_not, not_true_eq_false, not_false_eq_true, xs.1, xs.2.1, xs.2.2.2]
    by_cases c1 : s32 (G 13) (G 3 0).toInt.toNat = s32 (G 23) (G 4 0).toInt.toNat
    · rw [if_pos c1, if_pos c1]
      by_cases c2 : G 6 2 = G 6 3 + s32 (G 26) (G 4 0).toInt.toNat
      · rw [if_pos c2, if_pos c2]; rfl
      · rw [if_neg c2, if_neg c2]
    · rw [if_neg c1, if_neg c1]
      by_cases c2 : G 6 2 = G 6 3 + s32 (G 26) (G 4 0).toInt.toNat
      · rw [if_pos c2, if_pos c2]; rfl
      · rw [if_neg c2, if_neg c2]
  unfold f11_violations
  simp only [nm_ap, bnd_ap, bns_ap, bnx_ap0, bnx_ap1, bnx_ap2, bnx_ap3, bnx_ap4, gz_0, gz_1, dvd_96, dvd_2, dvd_10000, rmd_96, rmd_8, xg_at, xg_0, mr_at, up_xg, up_mr, narz_0, narz_1, i10, i01, i11, i00, ↓reduceIte, e10, e01, e50, e51, e20, e60, e70, e30, e40, Classical.not_not, not_true_eq_false, not_false_eq_true, q1, q2, q3]
  rfl
theorem m_bit {c : Int32} (h : c = 0 ∨ c = 1) : f12_bit c = some c := by
  rcases h with rfl | rfl <;> rfl
theorem m_wrongCard {G : Gd} {w : Rw} (hg : GP G w) (τ : Sig) {k : Nat} (hk : (k : Int) < (G 4 0).toInt) : f12_wrongCard (Int32.ofNat k) (mr τ w) = some (va2 G k) := by
  have h0 := hg.2.1
  have hp := hg.2.p hk
  have ek := oN k (by omega)
  have k3 : 0 ≤ (Int32.ofNat k).toInt ∧ (Int32.ofNat k).toInt < 30 := by rw [ek]; omega
  have en : (Int32.ofNat k).toInt.toNat = k := by rw [ek]; rfl
  unfold f12_wrongCard f12_wrongCard_b29 va2
  simp only [nm_ap, bnd_ap, bns_ap, bnx_ap0, bnx_ap1, bnx_ap2, bnx_ap3, bnx_ap4, gz_0, gz_1, dvd_96, dvd_2, dvd_10000, rmd_96, rmd_8, xg_at, xg_0, mr_at, up_xg, up_mr, narz_0, narz_1, i10, i01, i11, i00, ↓reduceIte, e10, e01, e50, e51, e20, e60, e70, e30, e40, Classical.not_not, not_true_eq_false, not_false_eq_true, mo_5 k3, en, hg.1.p5 hk]
  by_cases c1 : (G 20 k).toInt = -1
  · have c1' : G 20 k = -1 := ti_ext (by rw [c1]; rfl)
    rw [if_pos c1', if_neg (fun z => z.1 c1)]
  · have c1' : ¬ G 20 k = -1 := fun e => c1 (by rw [e]; rfl)
    have kn : (((G 20 k).toInt.toNat : Nat) : Int) < (G 5 0).toInt := by omega
    have hc := hg.2.k kn
    rw [if_neg c1', m_blocked (by omega), m_passOfCard (by omega), hg.1.k1 kn, hg.1.k0 kn]
    simp only [nm_ap, bnd_ap, bns_ap, bnx_ap0, bnx_ap1, bnx_ap2, bnx_ap3, bnx_ap4, gz_0, gz_1, dvd_96, dvd_2, dvd_10000, rmd_96, rmd_8, xg_at, xg_0, mr_at, up_xg, up_mr, narz_0, narz_1, i10, i01, i11, i00, ↓reduceIte, e10, e01, e50, e51, e20, e60, e70, e30, e40, Classical.not_not, not_true_eq_false, not_false_eq_true]
    rcases b01 (x := G 28 (G 20 k).toInt.toNat) (by omega) with c2 | c2
    · have c2' : (G 28 (G 20 k).toInt.toNat).toInt = 0 := by rw [c2]; rfl
      rw [c2, if_pos (by decide)]
      by_cases c3 : G 27 (G 20 k).toInt.toNat = Int32.ofNat k
      · rw [if_pos c3, if_neg (fun z => z.2 ⟨rfl, c3⟩)]
      · rw [if_neg c3, if_pos ⟨c1, fun z => c3 z.2⟩]
    · have c2' : ¬ (G 28 (G 20 k).toInt.toNat).toInt = 0 := by rw [c2]; decide
      rw [c2, if_neg (by decide), if_pos ⟨c1, fun z => absurd z.1 (by decide)⟩]
theorem m_vb_l {G : Gd} {w : Rw} (hg : GP G w) (τ : Sig) (x1 x2 x3 : Int32) : ∀ (fu k : Nat), k ≤ (G 3 0).toInt.toNat → (G 3 0).toInt.toNat < fu + k → f12_violations_b138 fu (x1 + s32 (vb1 G) k) x2 x3 (Int32.ofNat k) (mr τ w) = some (x1 + s32 (vb1 G) (G 3 0).toInt.toNat + (if x2 = s32 (G 13) (G 3 0).toInt.toNat then 0 else 1) + (if x3 = G 6 2 then 0 else 1), mr τ w) := by
  have h0 := hg.2.1
  intro fu
  induction fu with
  | zero => intro k h1 h2; omega
  | succ fu ih =>
    intro k h1 h2
    have ek := oN k (by omega)
    rw [f12_violations_b138]
    simp only [nm_ap, bnd_ap, bns_ap, bnx_ap0, bnx_ap1, bnx_ap2, bnx_ap3, bnx_ap4, gz_0, gz_1, dvd_96, dvd_2, dvd_10000, rmd_96, rmd_8, xg_at, xg_0, mr_at, up_xg, up_mr, narz_0, narz_1, i10, i01, i11, i00, ↓reduceIte, e10, e01, e50, e51, e20, e60, e70, e30, e40, Classical.not_not, not_true_eq_false, not_false_eq_true, al_0, al_1, al_2, al_3, al_4, al_5, al_6, al_7, al_8, al_9, al_10, al_11, al_12, al_13, al_14, hg.1.s1]
    by_cases hk : k = (G 3 0).toInt.toNat
    · rw [if_pos (by rw [Int32.le_iff_toInt_le, ek]; omega), m_allV hg]
      unfold f12_violations_b223 f12_violations_b243
      simp only [nm_ap, bnd_ap, bns_ap, bnx_ap0, bnx_ap1, bnx_ap2, bnx_ap3, bnx_ap4, gz_0, gz_1, dvd_96, dvd_2, dvd_10000, rmd_96, rmd_8, xg_at, xg_0, mr_at, up_xg, up_mr, narz_0, narz_1, i10, i01, i11, i00, ↓reduceIte, e10, e01, e50, e51, e20, e60, e70, e30, e40, Classical.not_not, not_true_eq_false, not_false_eq_true, al_0, al_1, al_2, al_3, al_4, al_5, al_6, al_7, al_8, al_9, al_10, al_11, al_12, al_13, al_14, hg.1.s14, ← hk]
      by_cases c1 : x2 = s32 (G 13) k
      · rw [if_pos c1, if_pos c1, m_bit (Or.inl rfl)]
        simp only [nm_ap, bnd_ap, bns_ap, bnx_ap0, bnx_ap1, bnx_ap2, bnx_ap3, bnx_ap4, gz_0, gz_1, dvd_96, dvd_2, dvd_10000, rmd_96, rmd_8, xg_at, xg_0, mr_at, up_xg, up_mr, narz_0, narz_1, i10, i01, i11, i00, ↓reduceIte, e10, e01, e50, e51, e20, e60, e70, e30, e40, Classical.not_not, not_true_eq_false, not_false_eq_true]
        by_cases c2 : x3 = G 6 2
        · rw [if_pos c2, if_pos c2]
        · rw [if_neg c2, if_neg c2, m_bit (Or.inr rfl)]; rfl
      · rw [if_neg c1, if_neg c1, m_bit (Or.inr rfl)]
        simp only [nm_ap, bnd_ap, bns_ap, bnx_ap0, bnx_ap1, bnx_ap2, bnx_ap3, bnx_ap4, gz_0, gz_1, dvd_96, dvd_2, dvd_10000, rmd_96, rmd_8, xg_at, xg_0, mr_at, up_xg, up_mr, narz_0, narz_1, i10, i01, i11, i00, ↓reduceIte, e10, e01, e50, e51, e20, e60, e70, e30, e40, Classical.not_not, not_true_eq_false, not_false_eq_true]
        by_cases c2 : x3 = G 6 2
        · rw [if_pos c2, if_pos c2, m_bit (Or.inl rfl)]; rfl
        · rw [if_neg c2, if_neg c2]
    · have q := ih (k + 1) (by omega) (by omega)
      have k8 : 0 ≤ (Int32.ofNat k).toInt ∧ (Int32.ofNat k).toInt < 8 := by rw [ek]; omega
      have kn : (k : Int) < (G 3 0).toInt := by omega
      have en : (Int32.ofNat k).toInt.toNat = k := by rw [ek]; rfl
      have e0 : (0 : Int32).toInt = 0 := rfl
      have e50 : (50 : Int32).toInt = 50 := rfl
      rw [if_neg (by rw [Int32.le_iff_toInt_le, ek]; omega)]
      unfold f12_violations_b188 f12_violations_b193
      simp only [nm_ap, bnd_ap, bns_ap, bnx_ap0, bnx_ap1, bnx_ap2, bnx_ap3, bnx_ap4, gz_0, gz_1, dvd_96, dvd_2, dvd_10000, rmd_96, rmd_8, xg_at, xg_0, mr_at, up_xg, up_mr, narz_0, narz_1, i10, i01, i11, i00, ↓reduceIte, e10, e01, e50, e51, e20, e60, e70, e30, e40, Classical.not_not, not_true_eq_false, not_false_eq_true, mb_5 k8, mb_1 k8, mb_4 k8, en, hg.1.b5 kn, hg.1.b1 kn, hg.1.b4 kn, m_bit (Or.inl rfl : (0 : Int32) = 0 ∨ (0 : Int32) = 1), m_bit (Or.inr rfl : (1 : Int32) = 0 ∨ (1 : Int32) = 1), oN1, Int32.lt_iff_toInt_lt, Int32.le_iff_toInt_le, e0, e50, Int32.add_zero]
      rw [s32, vb1] at q
      by_cases c1 : (G 9 k).toInt < (G 14 k).toInt
      · rw [if_pos c1]; rw [if_pos (by omega), ← Int32.add_assoc] at q; exact q
      · rw [if_neg c1]
        by_cases c2 : (G 12 k).toInt < 0
        · rw [if_pos c2]; rw [if_pos (by omega), ← Int32.add_assoc] at q; exact q
        · rw [if_neg c2]
          by_cases c3 : (G 12 k).toInt ≤ 50
          · rw [if_pos c3]; rw [if_neg (by omega), Int32.add_zero] at q; exact q
          · rw [if_neg c3]; rw [if_pos (by omega), ← Int32.add_assoc] at q; exact q
theorem m_vp_l {G : Gd} {w : Rw} (hg : GP G w) (τ : Sig) : ∀ (fu k : Nat), k ≤ (G 4 0).toInt.toNat → (G 4 0).toInt.toNat < fu + k → f12_violations_b20 fu (vap G k) (s32 (G 23) k) (G 6 3 + s32 (G 26) k) (Int32.ofNat k) (mr τ w) = some (vap G (G 4 0).toInt.toNat + s32 (vb1 G) (G 3 0).toInt.toNat + (if s32 (G 23) (G 4 0).toInt.toNat = s32 (G 13) (G 3 0).toInt.toNat then 0 else 1) + (if G 6 3 + s32 (G 26) (G 4 0).toInt.toNat = G 6 2 then 0 else 1), mr τ w) := by
  have h0 := hg.2.1
  intro fu
  induction fu with
  | zero => intro k h1 h2; omega
  | succ fu ih =>
    intro k h1 h2
    have ek := oN k (by omega)
    rw [f12_violations_b20]
    simp only [nm_ap, bnd_ap, bns_ap, bnx_ap0, bnx_ap1, bnx_ap2, bnx_ap3, bnx_ap4, gz_0, gz_1, dvd_96, dvd_2, dvd_10000, rmd_96, rmd_8, xg_at, xg_0, mr_at, up_xg, up_mr, narz_0, narz_1, i10, i01, i11, i00, ↓reduceIte, e10, e01, e50, e51, e20, e60, e70, e30, e40, Classical.not_not, not_true_eq_false, not_false_eq_true, al_0, al_1, al_2, al_3, al_4, al_5, al_6, al_7, al_8, al_9, al_10, al_11, al_12, al_13, al_14, hg.1.s2]
    by_cases hk : k = (G 4 0).toInt.toNat
    · rw [if_pos (by rw [Int32.le_iff_toInt_le, ek]; omega)]
      have q := m_vb_l hg τ (vap G k) (s32 (G 23) k) (G 6 3 + s32 (G 26) k) FU 0 (by omega) (by unfold FU; omega)
      rw [s32, Int32.add_zero] at q
      rw [← hk]
      exact q
    · have q := ih (k + 1) (by omega) (by omega)
      have k3 : 0 ≤ (Int32.ofNat k).toInt ∧ (Int32.ofNat k).toInt < 30 := by rw [ek]; omega
      have kn : (k : Int) < (G 4 0).toInt := by omega
      have hp := hg.2.p kn
      have en : (Int32.ofNat k).toInt.toNat = k := by rw [ek]; rfl
      have v2 : va2 G k = 0 ∨ va2 G k = 1 := by unfold va2; split <;> simp
      rw [vap, s32, s32] at q
      have t : ∀ b, b = va1 G k → f12_violations_b58 (f12_violations_b20 fu) (s32 (G 23) k) (G 6 3 + s32 (G 26) k) (Int32.ofNat k) (vap G k) b (mr τ w) = some (vap G (G 4 0).toInt.toNat + s32 (vb1 G) (G 3 0).toInt.toNat + (if s32 (G 23) (G 4 0).toInt.toNat = s32 (G 13) (G 3 0).toInt.toNat then 0 else 1) + (if G 6 3 + s32 (G 26) (G 4 0).toInt.toNat = G 6 2 then 0 else 1), mr τ w) := by
        intro b hb
        have vb : b = 0 ∨ b = 1 := by rw [hb]; unfold va1; split <;> simp
        unfold f12_violations_b58 f12_violations_b101 f12_violations_b102
        simp only [nm_ap, bnd_ap, bns_ap, bnx_ap0, bnx_ap1, bnx_ap2, bnx_ap3, bnx_ap4, gz_0, gz_1, dvd_96, dvd_2, dvd_10000, rmd_96, rmd_8, xg_at, xg_0, mr_at, up_xg, up_mr, narz_0, narz_1, i10, i01, i11, i00, ↓reduceIte, e10, e01, e50, e51, e20, e60, e70, e30, e40, Classical.not_not, not_true_eq_false, not_false_eq_true, m_bit vb, m_wrongCard hg τ kn, m_bit v2, mo_6 k3, mo_5 k3, mo_8 k3, mo_11 k3, en, hg.1.p6 kn, hg.1.p5 kn, hg.1.p8 kn, hg.1.p11 kn, m_bit (Or.inl rfl : (0 : Int32) = 0 ∨ (0 : Int32) = 1), m_bit (Or.inr rfl : (1 : Int32) = 0 ∨ (1 : Int32) = 1), oN1, Int32.add_zero]
        rw [← hb, va3] at q
        rw [Int32.add_assoc (vap G k) b (va2 G k), ← Int32.add_assoc (G 6 3)] at q
        rcases b01 (x := G 21 k) (by omega) with c2 | c2
        · rw [c2, if_neg (by decide)]
          rw [c2, if_neg (fun z => z.2 rfl), Int32.add_zero] at q
          exact q
        · rw [c2, if_pos rfl]
          by_cases c1 : (G 20 k).toInt = -1
          · have c1' : G 20 k = -1 := ti_ext (by rw [c1]; rfl)
            rw [if_pos c1']
            rw [if_neg (fun z => z.1 c1), Int32.add_zero] at q
            exact q
          · have c1' : ¬ G 20 k = -1 := fun e => c1 (by rw [e]; rfl)
            rw [if_neg c1']
            rw [if_pos ⟨c1, by rw [c2]; decide⟩] at q
            exact q
      rw [if_neg (by rw [Int32.le_iff_toInt_le, ek]; omega), mo_7 k3, en, hg.1.p7 kn]
      simp only [nm_ap, bnd_ap, bns_ap, bnx_ap0, bnx_ap1, bnx_ap2, bnx_ap3, bnx_ap4, gz_0, gz_1, dvd_96, dvd_2, dvd_10000, rmd_96, rmd_8, xg_at, xg_0, mr_at, up_xg, up_mr, narz_0, narz_1, i10, i01, i11, i00, ↓reduceIte, e10, e01, e50, e51, e20, e60, e70, e30, e40, Classical.not_not, not_true_eq_false, not_false_eq_true, m_ones (show 0 ≤ (G 22 k).toInt ∧ (G 22 k).toInt < 16384 by omega), mo_2 k3, en, hg.1.p2 kn]
      by_cases c : (G 17 k).toInt < (bitc (G 22 k)).toInt
      · rw [if_neg (by rw [Int32.le_iff_toInt_le]; omega)]
        exact t 1 (by rw [va1, if_pos c])
      · rw [if_pos (by rw [Int32.le_iff_toInt_le]; omega)]
        exact t 0 (by rw [va1, if_neg c])
theorem ok_violations {σ τ : Sig} {G : Gd} {w : Rw} (h : Rl (xg σ 8 G) (mr τ w)) : OKp (xg σ 8 G) (f11_violations (xg σ 8 G)) (f12_violations (mr τ w)) := by
  have hg := h.gp
  have h0 := hg.2.1
  have q := m_vp_l hg (up τ 0 0 0 0) FU 0 (by omega) (by unfold FU; omega)
  rw [vap, s32, s32, Int32.add_zero] at q
  have q' : f12_violations_b20 FU 0 0 (G 6 3) 0 (mr (up τ 0 0 0 0) w) = _ := q
  unfold f12_violations
  rw [x_viol hg.2]
  simp only [nm_ap, bnd_ap, bns_ap, bnx_ap0, bnx_ap1, bnx_ap2, bnx_ap3, bnx_ap4, gz_0, gz_1, dvd_96, dvd_2, dvd_10000, rmd_96, rmd_8, xg_at, xg_0, mr_at, up_xg, up_mr, narz_0, narz_1, i10, i01, i11, i00, ↓reduceIte, e10, e01, e50, e51, e20, e60, e70, e30, e40, Classical.not_not, not_true_eq_false, not_false_eq_true, al_0, al_1, al_2, al_3, al_4, al_5, al_6, al_7, al_8, al_9, al_10, al_11, al_12, al_13, al_14, up_mr0, hg.1.s11, q']
  refine ⟨_, _, rfl, ?_, h.thm 0⟩
  unfold vAll vs1 vs2
  rw [← Int32.add_assoc]
  congr 2
  · congr 1
    · congr 1
      by_cases c : s32 (G 23) (G 4 0).toInt.toNat = s32 (G 13) (G 3 0).toInt.toNat
      · rw [if_pos c, if_pos c.symm]
      · rw [if_neg c, if_neg (fun e => c e.symm)]
    · by_cases c : G 6 3 + s32 (G 26) (G 4 0).toInt.toNat = G 6 2
      · rw [if_pos c, if_pos c.symm]
      · rw [if_neg c, if_neg (fun e => c e.symm)]
