/-! THE MATHEMATICS, 7: more changes: new prices, new beds, passes, cards, scents; a fresh garden -/
-- a new price
def dif (G : Gd) (p : Nat) (set days : Int32) : Int32 := if (G 19 p).toInt < (Pr G set days (G 18 p)).toInt then Pr G set days (G 18 p) - G 19 p else 0
def Gren (G : Gd) (p : Nat) (set days d : Int32) : Gd := p2 (p2 (p2 (p2 G 15 p set) 17 p days) 19 p (G 19 p + d)) 6 0 (G 6 0 + d)
def Wren (w : Rw) (p : Nat) (set days d : Int32) : Rw := upd (upd (upd (upd w (76 + 12 * p + 0) set) (76 + 12 * p + 2) days) (76 + 12 * p + 4) (w (76 + 12 * p + 4) + d)) 9 (w 9 + d)
theorem x_newPrice {σ : Sig} {n : Nat} {G : Gd} (hi : Iv G) {p set days : Int32} (hp : 0 ≤ p.toInt ∧ p.toInt < (G 4 0).toInt) (hd : 1 ≤ days.toInt ∧ days.toInt ≤ 14) : f4_payNewPrice n p (xg σ n (p2 (p2 G 15 p.toInt.toNat set) 17 p.toInt.toNat days)) = some (dif G p.toInt.toNat set days, xg σ n (Gren G p.toInt.toNat set days (dif G p.toInt.toNat set days))) := by
  have h0 := hi.1
  have h1 := hi.p (p := p.toInt.toNat) (by omega)
  have hp' : 0 ≤ p.toInt ∧ p.toInt < ((30 : Nat) : Int) := by omega
  have hP := Pr_in hi (set := set) (kind := G 18 p.toInt.toNat) hd
  have es : (Pr G set days (G 18 p.toInt.toNat) - G 19 p.toInt.toNat).toInt = (Pr G set days (G 18 p.toInt.toNat)).toInt - (G 19 p.toInt.toNat).toInt := tv_sub rfl rfl (by omega)
  have hx : ∀ k, f10_priceOfPass n set days k (xg σ n (p2 (p2 G 15 p.toInt.toNat set) 17 p.toInt.toNat days)) = some (Pr G set days k) := by
    intro k
    rw [x_price (by simp only [p2_if, Nat.reduceEqDiff, ↓reduceIte]; omega)]
    show some (Pr (p2 (p2 G 15 p.toInt.toNat set) 17 p.toInt.toNat days) set days k) = _
    exact congrArg some (Pr_congr (G := G) (G' := p2 (p2 G 15 p.toInt.toNat set) 17 p.toInt.toNat days) rfl rfl)
  unfold f4_payNewPrice Gren
  simp only [nm_ap, bnd_ap, bns_ap, bnx_ap0, bnx_ap1, bnx_ap2, bnx_ap3, bnx_ap4, gz_0, gz_1, dvd_96, dvd_2, dvd_10000, rmd_96, rmd_8, xg_at, xg_0, mr_at, up_xg, up_mr, narz_0, narz_1, i10, i01, i11, i00, ↓reduceIte, e10, e01, e50, e51, e20, e60, e70, e30, e40, Classical.not_not, not_true_eq_false, not_false_eq_true, ald_in hp', ast_in hp', p2_if, Nat.reduceEqDiff, ↓reduceIte, upd_at, hx]
  have ev : (if (0 : Int32) < Pr G set days (G 18 p.toInt.toNat) - G 19 p.toInt.toNat then Pr G set days (G 18 p.toInt.toNat) - G 19 p.toInt.toNat else 0) = dif G p.toInt.toNat set days := by
    unfold dif
    simp only [Int32.lt_iff_toInt_lt, es, Int32.reduceToInt]
    split
    · rw [if_pos (by omega)]
    · rw [if_neg (by omega)]
  rw [ev]
theorem m_renew {G : Gd} {w : Rw} (h : RG G w) (hi : Iv G) (τ : Sig) {p set days : Int32} (hp : 0 ≤ p.toInt ∧ p.toInt < (G 4 0).toInt) : f12_renew p set days (mr τ w) = some (dif G p.toInt.toNat set days, mr τ (Wren w p.toInt.toNat set days (dif G p.toInt.toNat set days))) := by
  have h0 := hi.1
  have hn : ((p.toInt.toNat : Nat) : Int) < (G 4 0).toInt := by omega
  have h1 := hi.p hn
  have hp3 : 0 ≤ p.toInt ∧ p.toInt < 30 := by omega
  unfold f12_renew f12_renew_b38
  simp only [nm_ap, bnd_ap, bns_ap, bnx_ap0, bnx_ap1, bnx_ap2, bnx_ap3, bnx_ap4, gz_0, gz_1, dvd_96, dvd_2, dvd_10000, rmd_96, rmd_8, xg_at, xg_0, mr_at, up_xg, up_mr, narz_0, narz_1, i10, i01, i11, i00, ↓reduceIte, e10, e01, e50, e51, e20, e60, e70, e30, e40, Classical.not_not, not_true_eq_false, not_false_eq_true, mo_3 hp3, h.p3 hn, m_price h.s0 (fun i hi' => h.i hi') (by omega : 0 ≤ (G 2 0).toInt ∧ (G 2 0).toInt ≤ 5) (show (G 18 p.toInt.toNat).toInt = 0 ∨ (G 18 p.toInt.toNat).toInt = 1 by omega), mo_4 hp3, h.p4 hn, mp_0 hp3, mp_2 hp3, mp_4 hp3, al_0, al_1, al_2, al_3, al_4, al_5, al_6, al_7, al_8, al_9, al_10, al_11, al_12, al_13, al_14, as_0, as_1, as_2, as_3, as_4, as_5, as_6, as_7, as_8, as_9, as_10, as_11, as_12, as_13, as_14]
  have hpn : p.toInt.toNat < 30 := by omega
  clear h0 h1
  unfold dif Wren
  by_cases hc : (G 19 p.toInt.toNat).toInt < (Pr G set days (G 18 p.toInt.toNat)).toInt
  · rw [if_pos hc, if_neg (by rw [Int32.le_iff_toInt_le]; omega)]
    simp (disch := omega) only [upd_at, upd_ne, p2_at, p2_ne, h.p4 hn]
  · rw [if_neg hc, if_pos (by rw [Int32.le_iff_toInt_le]; omega)]
    simp (disch := omega) only [upd_at, upd_ne, p2_at, p2_ne, h.p4 hn]
theorem rg_ren {G : Gd} {w : Rw} (h : RG G w) {p : Nat} (hp : (p : Int) < (G 4 0).toInt) (set days d : Int32) (hB : Bd G) : RG (Gren G p set days d) (Wren w p set days d) := by
  have e9 : G 6 0 - G 6 1 + d = G 6 0 + d - G 6 1 := by grind
  have ep := h.p4 hp
  unfold Gren Wren
  refine ⟨?_, fun i9 hi9 => ?_, fun b9 hb9 => ?_, fun q9 hq9 => ?_, fun k9 hk9 => ?_⟩
  · simp (disch := omega) only [upd_at, upd_ne, p2_at, p2_ne, h.s0, h.s1, h.s2, h.s3, h.s4, h.s5, h.s6, h.s7, h.s8, h.s9, h.s10, h.s11, h.s12, h.s13, h.s14, and_self, and_true, true_and, e9,ep]
  · simp (disch := omega) only [upd_at, upd_ne, p2_at, p2_ne] at hi9
    have hh := h.2.1 i9 hi9
    simp (disch := omega) only [upd_at, upd_ne, p2_at, p2_ne, hh, and_self, and_true, true_and]
  · simp (disch := omega) only [upd_at, upd_ne, p2_at, p2_ne] at hb9
    have hh := h.2.2.1 b9 hb9
    simp (disch := omega) only [upd_at, upd_ne, p2_at, p2_ne, hh, and_self, and_true, true_and]
  · simp (disch := omega) only [upd_at, upd_ne, p2_at, p2_ne] at hq9
    have hh := h.2.2.2.1 q9 hq9
    by_cases e9_ : q9 = p
    · subst e9_
      simp (disch := omega) only [upd_at, upd_ne, p2_at, p2_ne, hh, and_self, and_true, true_and, e9,ep]
    · simp (disch := omega) only [upd_at, upd_ne, p2_at, p2_ne, hh, and_self, and_true, true_and]
  · simp (disch := omega) only [upd_at, upd_ne, p2_at, p2_ne] at hk9
    have hh := h.2.2.2.2 k9 hk9
    simp (disch := omega) only [upd_at, upd_ne, p2_at, p2_ne, hh, and_self, and_true, true_and]
-- a bed is laid
def Gbed (G : Gd) (N : Nat) (sc pl f l : Int32) : Gd := p2 (p2 (p2 (p2 (p2 (p2 (p2 (p2 G 8 N sc) 9 N pl) 10 N f) 11 N l) 12 N 20) 13 N 0) 14 N 0) 3 0 (G 3 0 + 1)
def Wbed (w : Rw) (N : Nat) (sc pl f l : Int32) : Rw := upd (upd (upd (upd (upd (upd (upd (upd w 1 (w 1 + 1)) (20 + 7 * N + 0) sc) (20 + 7 * N + 1) pl) (20 + 7 * N + 2) f) (20 + 7 * N + 3) l) (20 + 7 * N + 4) 20) (20 + 7 * N + 5) 0) (20 + 7 * N + 6) 0
theorem x_bed {σ : Sig} {n : Nat} {G : Gd} {sc pl f l : Int32} (hb : 0 ≤ (G 3 0).toInt ∧ (G 3 0).toInt < 8) : f0_add n sc pl f l (xg σ n G) = some (G 3 0, xg σ n (Gbed G (G 3 0).toInt.toNat sc pl f l)) := by
  have hb' : 0 ≤ (G 3 0).toInt ∧ (G 3 0).toInt < ((8 : Nat) : Int) := hb
  unfold f0_add Gbed
  simp only [nm_ap, bnd_ap, bns_ap, bnx_ap0, bnx_ap1, bnx_ap2, bnx_ap3, bnx_ap4, gz_0, gz_1, dvd_96, dvd_2, dvd_10000, rmd_96, rmd_8, xg_at, xg_0, mr_at, up_xg, up_mr, narz_0, narz_1, i10, i01, i11, i00, ↓reduceIte, e10, e01, e50, e51, e20, e60, e70, e30, e40, Classical.not_not, not_true_eq_false, not_false_eq_true, ast_in hb', p2_if, Nat.reduceEqDiff, ↓reduceIte]
theorem m_mkBed {τ : Sig} {w : Rw} {sc pl f l : Int32} (hb : 0 ≤ (w 1).toInt ∧ (w 1).toInt < 8) : f12_makeBed sc pl f l (mr τ w) = some (w 1, mr τ (Wbed w (w 1).toInt.toNat sc pl f l)) := by
  unfold f12_makeBed Wbed
  simp only [nm_ap, bnd_ap, bns_ap, bnx_ap0, bnx_ap1, bnx_ap2, bnx_ap3, bnx_ap4, gz_0, gz_1, dvd_96, dvd_2, dvd_10000, rmd_96, rmd_8, xg_at, xg_0, mr_at, up_xg, up_mr, narz_0, narz_1, i10, i01, i11, i00, ↓reduceIte, e10, e01, e50, e51, e20, e60, e70, e30, e40, Classical.not_not, not_true_eq_false, not_false_eq_true, al_0, al_1, al_2, al_3, al_4, al_5, al_6, al_7, al_8, al_9, al_10, al_11, al_12, al_13, al_14, as_0, as_1, as_2, as_3, as_4, as_5, as_6, as_7, as_8, as_9, as_10, as_11, as_12, as_13, as_14, mq_0 hb, mq_1 hb, mq_2 hb, mq_3 hb, mq_4 hb, mq_5 hb, mq_6 hb]
theorem rg_bed {G : Gd} {w : Rw} (h : RG G w) {N : Nat} (hN : (G 3 0).toInt = N) (hN8 : N < 8) (sc pl f l : Int32) (hB : Bd G) : RG (Gbed G N sc pl f l) (Wbed w N sc pl f l) := by
  have en : (G 3 0 + 1).toInt = N + 1 := tv_add hN rfl (by omega)
  unfold Gbed Wbed
  refine ⟨?_, fun i9 hi9 => ?_, fun b9 hb9 => ?_, fun q9 hq9 => ?_, fun k9 hk9 => ?_⟩
  · simp (disch := omega) only [upd_at, upd_ne, p2_at, p2_ne, h.s0, h.s1, h.s2, h.s3, h.s4, h.s5, h.s6, h.s7, h.s8, h.s9, h.s10, h.s11, h.s12, h.s13, h.s14, and_self, and_true, true_and, en]
  · simp (disch := omega) only [upd_at, upd_ne, p2_at, p2_ne] at hi9
    have hh := h.2.1 i9 hi9
    simp (disch := omega) only [upd_at, upd_ne, p2_at, p2_ne, hh, and_self, and_true, true_and]
  · simp (disch := omega) only [upd_at, upd_ne, p2_at, p2_ne, en] at hb9
    by_cases e9_ : b9 = N
    · subst e9_
      simp (disch := omega) only [upd_at, upd_ne, p2_at, p2_ne, and_self, and_true, true_and, en]
    · have hh := h.2.2.1 b9 (by omega)
      simp (disch := omega) only [upd_at, upd_ne, p2_at, p2_ne, hh, and_self, and_true, true_and]
  · simp (disch := omega) only [upd_at, upd_ne, p2_at, p2_ne] at hq9
    have hh := h.2.2.2.1 q9 hq9
    simp (disch := omega) only [upd_at, upd_ne, p2_at, p2_ne, hh, and_self, and_true, true_and]
  · simp (disch := omega) only [upd_at, upd_ne, p2_at, p2_ne] at hk9
    have hh := h.2.2.2.2 k9 hk9
    simp (disch := omega) only [upd_at, upd_ne, p2_at, p2_ne, hh, and_self, and_true, true_and]
-- a pass is sold
def Gsel (G : Gd) (P K : Nat) (set day days kind pr : Int32) : Gd := p2 (p2 (p2 (p2 (p2 (p2 (p2 (p2 (p2 (p2 (p2 (p2 (p2 (p2 (p2 (p2 (p2 (p2 G 15 P set) 16 P day) 17 P days) 18 P kind) 19 P pr) 20 P (-1)) 21 P 0) 22 P 0) 23 P 0) 24 P (-1)) 25 P (-1)) 26 P 0) 4 0 (G 4 0 + 1)) 27 K (G 4 0)) 28 K 0) 5 0 (G 5 0 + 1)) 20 P (G 5 0)) 6 0 (G 6 0 + pr)
def Wsel (w : Rw) (P K : Nat) (set day days kind pr : Int32) : Rw := upd (upd (upd (upd (upd (upd (upd (upd (upd (upd (upd (upd (upd (upd (upd (upd (upd w 2 (w 2 + 1)) (76 + 12 * P + 0) set) (76 + 12 * P + 1) day) (76 + 12 * P + 2) days) (76 + 12 * P + 3) kind) (76 + 12 * P + 4) pr) (76 + 12 * P + 6) 0) (76 + 12 * P + 7) 0) (76 + 12 * P + 8) 0) (76 + 12 * P + 9) (-1)) (76 + 12 * P + 10) (-1)) (76 + 12 * P + 11) 0) 3 (w 3 + 1)) (436 + 2 * K + 0) (w 2)) (436 + 2 * K + 1) 0) (76 + 12 * P + 5) (w 3)) 9 (w 9 + pr)
theorem x_sell {σ : Sig} {n : Nat} {G : Gd} {set day days kind : Int32} (hs : 0 ≤ (G 2 0).toInt ∧ (G 2 0).toInt ≤ 5) (hP : 0 ≤ (G 4 0).toInt ∧ (G 4 0).toInt < 30) (hK : 0 ≤ (G 5 0).toInt ∧ (G 5 0).toInt < 50) : f4_sellPass n set day days kind (xg σ n G) = some (G 4 0, xg σ n (Gsel G (G 4 0).toInt.toNat (G 5 0).toInt.toNat set day days kind (Pr G set days kind))) := by
  have hP' : 0 ≤ (G 4 0).toInt ∧ (G 4 0).toInt < ((30 : Nat) : Int) := hP
  have hK' : 0 ≤ (G 5 0).toInt ∧ (G 5 0).toInt < ((50 : Nat) : Int) := hK
  unfold f4_sellPass f7_add f2_add Gsel
  rw [x_price hs]
  rw [show Pz (G 2 0).toInt.toNat (G 7) set days kind = Pr G set days kind from rfl]
  simp only [nm_ap, bnd_ap, bns_ap, bnx_ap0, bnx_ap1, bnx_ap2, bnx_ap3, bnx_ap4, gz_0, gz_1, dvd_96, dvd_2, dvd_10000, rmd_96, rmd_8, xg_at, xg_0, mr_at, up_xg, up_mr, narz_0, narz_1, i10, i01, i11, i00, ↓reduceIte, e10, e01, e50, e51, e20, e60, e70, e30, e40, Classical.not_not, not_true_eq_false, not_false_eq_true, ast_in hP', ast_in hK', p2_if, Nat.reduceEqDiff, ↓reduceIte]
theorem m_sell {G : Gd} {w : Rw} (h : RG G w) (τ : Sig) {set day days kind : Int32} (hs : 0 ≤ (G 2 0).toInt ∧ (G 2 0).toInt ≤ 5) (hP : 0 ≤ (G 4 0).toInt ∧ (G 4 0).toInt < 30) (hK : 0 ≤ (G 5 0).toInt ∧ (G 5 0).toInt < 50) (hk : kind.toInt = 0 ∨ kind.toInt = 1) : f12_makePass set day days kind (mr τ w) = some (G 4 0, mr τ (Wsel w (G 4 0).toInt.toNat (G 5 0).toInt.toNat set day days kind (Pr G set days kind))) := by
  have hPn : (G 4 0).toInt.toNat < 30 := by omega
  have hKn : (G 5 0).toInt.toNat < 50 := by omega
  obtain ⟨k1, k2, k3, k4, k5, k6⟩ := m_kx hK
  have i1 : 0 ≤ (436 + 2 * G 5 0).toInt ∧ (436 + 2 * G 5 0).toInt < ((536 : Nat) : Int) := ⟨k3, k4⟩
  have i2 : 0 ≤ (436 + 2 * G 5 0 + 1).toInt ∧ (436 + 2 * G 5 0 + 1).toInt < ((536 : Nat) : Int) := ⟨k5, k6⟩
  have hpr := m_price (τ := τ) (G := G) (w := upd w 2 (w 2 + 1)) (set := set) (days := days) (kind := kind) (by rw [upd_ne _ _ (by decide), h.s0]) (fun i hi => by rw [upd_ne _ _ (by omega)]; exact h.i hi) hs hk
  unfold f12_makePass f12_makeCard Wsel
  simp only [nm_ap, bnd_ap, bns_ap, bnx_ap0, bnx_ap1, bnx_ap2, bnx_ap3, bnx_ap4, gz_0, gz_1, dvd_96, dvd_2, dvd_10000, rmd_96, rmd_8, xg_at, xg_0, mr_at, up_xg, up_mr, narz_0, narz_1, i10, i01, i11, i00, ↓reduceIte, e10, e01, e50, e51, e20, e60, e70, e30, e40, Classical.not_not, not_true_eq_false, not_false_eq_true, al_0, al_1, al_2, al_3, al_4, al_5, al_6, al_7, al_8, al_9, al_10, al_11, al_12, al_13, al_14, as_0, as_1, as_2, as_3, as_4, as_5, as_6, as_7, as_8, as_9, as_10, as_11, as_12, as_13, as_14, hpr]
  rw [h.s2] at hpr ⊢
  simp only [nm_ap, bnd_ap, bns_ap, bnx_ap0, bnx_ap1, bnx_ap2, bnx_ap3, bnx_ap4, gz_0, gz_1, dvd_96, dvd_2, dvd_10000, rmd_96, rmd_8, xg_at, xg_0, mr_at, up_xg, up_mr, narz_0, narz_1, i10, i01, i11, i00, ↓reduceIte, e10, e01, e50, e51, e20, e60, e70, e30, e40, Classical.not_not, not_true_eq_false, not_false_eq_true, al_0, al_1, al_2, al_3, al_4, al_5, al_6, al_7, al_8, al_9, al_10, al_11, al_12, al_13, al_14, as_0, as_1, as_2, as_3, as_4, as_5, as_6, as_7, as_8, as_9, as_10, as_11, as_12, as_13, as_14, mp_0 hP, mp_1 hP, mp_2 hP, mp_3 hP, mp_4 hP, mp_6 hP, mp_7 hP, mp_8 hP, mp_9 hP, mp_10 hP, mp_11 hP]
  have e3 : ∀ v1 v2 v3 v4 v5 v6 v7 v8 v9 v10 v11 v12 : Int32, upd (upd (upd (upd (upd (upd (upd (upd (upd (upd (upd (upd w 2 v1) (76 + 12 * (G 4 0).toInt.toNat + 0) v2) (76 + 12 * (G 4 0).toInt.toNat + 1) v3) (76 + 12 * (G 4 0).toInt.toNat + 2) v4) (76 + 12 * (G 4 0).toInt.toNat + 3) v5) (76 + 12 * (G 4 0).toInt.toNat + 4) v6) (76 + 12 * (G 4 0).toInt.toNat + 6) v7) (76 + 12 * (G 4 0).toInt.toNat + 7) v8) (76 + 12 * (G 4 0).toInt.toNat + 8) v9) (76 + 12 * (G 4 0).toInt.toNat + 9) v10) (76 + 12 * (G 4 0).toInt.toNat + 10) v11) (76 + 12 * (G 4 0).toInt.toNat + 11) v12 3 = G 5 0 := by
    intros
    simp (disch := omega) only [upd_at, upd_ne, p2_at, p2_ne, h.s3]
  simp only [e3, nm_ap, bnd_ap, bns_ap, bnx_ap0, bnx_ap1, bnx_ap2, bnx_ap3, bnx_ap4, gz_0, gz_1, dvd_96, dvd_2, dvd_10000, rmd_96, rmd_8, xg_at, xg_0, mr_at, up_xg, up_mr, narz_0, narz_1, i10, i01, i11, i00, ↓reduceIte, e10, e01, e50, e51, e20, e60, e70, e30, e40, Classical.not_not, not_true_eq_false, not_false_eq_true, ast_in i1, ast_in i2, k1, k2, mp_5 hP, al_0, al_1, al_2, al_3, al_4, al_5, al_6, al_7, al_8, al_9, al_10, al_11, al_12, al_13, al_14, as_0, as_1, as_2, as_3, as_4, as_5, as_6, as_7, as_8, as_9, as_10, as_11, as_12, as_13, as_14]
  rw [if_pos (by rw [Int32.le_iff_toInt_le]; exact hK.1), h.s3]
  simp (disch := omega) only [upd_at, upd_ne, p2_at, p2_ne]
theorem rg_sel {G : Gd} {w : Rw} (h : RG G w) {P K : Nat} (hP : (G 4 0).toInt = P) (hK : (G 5 0).toInt = K) (hP3 : P < 30) (hK5 : K < 50) (set day days kind pr : Int32) (hB : Bd G) : RG (Gsel G P K set day days kind pr) (Wsel w P K set day days kind pr) := by
  have en : (G 4 0 + 1).toInt = P + 1 := tv_add hP rfl (by omega)
  have ek : (G 5 0 + 1).toInt = K + 1 := tv_add hK rfl (by omega)
  have e9 : G 6 0 - G 6 1 + pr = G 6 0 + pr - G 6 1 := by grind
  have e2 := h.s2
  have e3 := h.s3
  unfold Gsel Wsel
  refine ⟨?_, fun i9 hi9 => ?_, fun b9 hb9 => ?_, fun q9 hq9 => ?_, fun k9 hk9 => ?_⟩
  · simp (disch := omega) only [upd_at, upd_ne, p2_at, p2_ne, h.s0, h.s1, h.s2, h.s3, h.s4, h.s5, h.s6, h.s7, h.s8, h.s9, h.s10, h.s11, h.s12, h.s13, h.s14, and_self, and_true, true_and, en,ek,e9,e2,e3]
  · simp (disch := omega) only [upd_at, upd_ne, p2_at, p2_ne] at hi9
    have hh := h.2.1 i9 hi9
    simp (disch := omega) only [upd_at, upd_ne, p2_at, p2_ne, hh, and_self, and_true, true_and]
  · simp (disch := omega) only [upd_at, upd_ne, p2_at, p2_ne] at hb9
    have hh := h.2.2.1 b9 hb9
    simp (disch := omega) only [upd_at, upd_ne, p2_at, p2_ne, hh, and_self, and_true, true_and]
  · simp (disch := omega) only [upd_at, upd_ne, p2_at, p2_ne, en,ek,e9,e2,e3] at hq9
    by_cases e9_ : q9 = P
    · subst e9_
      simp (disch := omega) only [upd_at, upd_ne, p2_at, p2_ne, and_self, and_true, true_and, en,ek,e9,e2,e3]
    · have hh := h.2.2.2.1 q9 (by omega)
      simp (disch := omega) only [upd_at, upd_ne, p2_at, p2_ne, hh, and_self, and_true, true_and]
  · simp (disch := omega) only [upd_at, upd_ne, p2_at, p2_ne, en,ek,e9,e2,e3] at hk9
    by_cases e9_ : k9 = K
    · subst e9_
      simp (disch := omega) only [upd_at, upd_ne, p2_at, p2_ne, and_self, and_true, true_and, en,ek,e9,e2,e3]
    · have hh := h.2.2.2.2 k9 (by omega)
      simp (disch := omega) only [upd_at, upd_ne, p2_at, p2_ne, hh, and_self, and_true, true_and]
-- a new card
def Gcrd (G : Gd) (p K : Nat) (pi : Int32) : Gd := p2 (p2 (p2 (p2 (p2 G 27 K pi) 28 K 0) 5 0 (G 5 0 + 1)) 20 p (G 5 0)) 6 0 (G 6 0 + 5)
def Wcrd (w : Rw) (p K : Nat) (pi : Int32) : Rw := upd (upd (upd (upd (upd w 9 (w 9 + 5)) 3 (w 3 + 1)) (436 + 2 * K + 0) pi) (436 + 2 * K + 1) 0) (76 + 12 * p + 5) (w 3)
theorem x_card {σ : Sig} {n : Nat} {G : Gd} {p : Int32} (hp : 0 ≤ p.toInt ∧ p.toInt < 30) (hK : 0 ≤ (G 5 0).toInt ∧ (G 5 0).toInt < 50) : f4_issueNewCard n p (xg σ n G) = some (G 5 0, xg σ n (Gcrd G p.toInt.toNat (G 5 0).toInt.toNat p)) := by
  have hp' : 0 ≤ p.toInt ∧ p.toInt < ((30 : Nat) : Int) := hp
  have hK' : 0 ≤ (G 5 0).toInt ∧ (G 5 0).toInt < ((50 : Nat) : Int) := hK
  unfold f4_issueNewCard f2_add Gcrd
  simp only [nm_ap, bnd_ap, bns_ap, bnx_ap0, bnx_ap1, bnx_ap2, bnx_ap3, bnx_ap4, gz_0, gz_1, dvd_96, dvd_2, dvd_10000, rmd_96, rmd_8, xg_at, xg_0, mr_at, up_xg, up_mr, narz_0, narz_1, i10, i01, i11, i00, ↓reduceIte, e10, e01, e50, e51, e20, e60, e70, e30, e40, Classical.not_not, not_true_eq_false, not_false_eq_true, ast_in hp', ald_in hp', ast_in hK', p2_if, Nat.reduceEqDiff, ↓reduceIte, upd_at]
theorem m_card {τ : Sig} {w : Rw} {p : Int32} (hp : 0 ≤ p.toInt ∧ p.toInt < 30) (hK : 0 ≤ (w 3).toInt ∧ (w 3).toInt < 50) : f12_replaceIt p (mr τ w) = some (w 3, mr τ (Wcrd w p.toInt.toNat (w 3).toInt.toNat p)) := by
  obtain ⟨k1, k2, k3, k4, k5, k6⟩ := m_kx hK
  have i1 : 0 ≤ (436 + 2 * w 3).toInt ∧ (436 + 2 * w 3).toInt < ((536 : Nat) : Int) := ⟨k3, k4⟩
  have i2 : 0 ≤ (436 + 2 * w 3 + 1).toInt ∧ (436 + 2 * w 3 + 1).toInt < ((536 : Nat) : Int) := ⟨k5, k6⟩
  have e3 : ∀ v : Int32, upd w 9 v 3 = w 3 := fun v => upd_ne _ _ (by decide)
  unfold f12_replaceIt f12_makeCard Wcrd
  simp only [nm_ap, bnd_ap, bns_ap, bnx_ap0, bnx_ap1, bnx_ap2, bnx_ap3, bnx_ap4, gz_0, gz_1, dvd_96, dvd_2, dvd_10000, rmd_96, rmd_8, xg_at, xg_0, mr_at, up_xg, up_mr, narz_0, narz_1, i10, i01, i11, i00, ↓reduceIte, e10, e01, e50, e51, e20, e60, e70, e30, e40, Classical.not_not, not_true_eq_false, not_false_eq_true, al_0, al_1, al_2, al_3, al_4, al_5, al_6, al_7, al_8, al_9, al_10, al_11, al_12, al_13, al_14, as_0, as_1, as_2, as_3, as_4, as_5, as_6, as_7, as_8, as_9, as_10, as_11, as_12, as_13, as_14, e3, ast_in i1, ast_in i2, k1, k2, mp_5 hp]
theorem rg_crd {G : Gd} {w : Rw} (h : RG G w) {p K : Nat} (hp : (p : Int) < (G 4 0).toInt) (hK : (G 5 0).toInt = K) (hK5 : K < 50) (pi : Int32) (hB : Bd G) : RG (Gcrd G p K pi) (Wcrd w p K pi) := by
  have ek : (G 5 0 + 1).toInt = K + 1 := tv_add hK rfl (by omega)
  have e9 : G 6 0 - G 6 1 + 5 = G 6 0 + 5 - G 6 1 := by grind
  have e3 := h.s3
  unfold Gcrd Wcrd
  refine ⟨?_, fun i9 hi9 => ?_, fun b9 hb9 => ?_, fun q9 hq9 => ?_, fun k9 hk9 => ?_⟩
  · simp (disch := omega) only [upd_at, upd_ne, p2_at, p2_ne, h.s0, h.s1, h.s2, h.s3, h.s4, h.s5, h.s6, h.s7, h.s8, h.s9, h.s10, h.s11, h.s12, h.s13, h.s14, and_self, and_true, true_and, ek,e9,e3]
  · simp (disch := omega) only [upd_at, upd_ne, p2_at, p2_ne] at hi9
    have hh := h.2.1 i9 hi9
    simp (disch := omega) only [upd_at, upd_ne, p2_at, p2_ne, hh, and_self, and_true, true_and]
  · simp (disch := omega) only [upd_at, upd_ne, p2_at, p2_ne] at hb9
    have hh := h.2.2.1 b9 hb9
    simp (disch := omega) only [upd_at, upd_ne, p2_at, p2_ne, hh, and_self, and_true, true_and]
  · simp (disch := omega) only [upd_at, upd_ne, p2_at, p2_ne] at hq9
    have hh := h.2.2.2.1 q9 hq9
    by_cases e9_ : q9 = p
    · subst e9_
      simp (disch := omega) only [upd_at, upd_ne, p2_at, p2_ne, hh, and_self, and_true, true_and, ek,e9,e3]
    · simp (disch := omega) only [upd_at, upd_ne, p2_at, p2_ne, hh, and_self, and_true, true_and]
  · simp (disch := omega) only [upd_at, upd_ne, p2_at, p2_ne, ek,e9,e3] at hk9
    by_cases e9_ : k9 = K
    · subst e9_
      simp (disch := omega) only [upd_at, upd_ne, p2_at, p2_ne, and_self, and_true, true_and, ek,e9,e3]
    · have hh := h.2.2.2.2 k9 (by omega)
      simp (disch := omega) only [upd_at, upd_ne, p2_at, p2_ne, hh, and_self, and_true, true_and]
-- a scent
def Gsc (G : Gd) (N : Nat) (v : Int32) : Gd := p2 (p2 G 7 N v) 2 0 (G 2 0 + 1)
def Wsc (w : Rw) (N : Nat) (v : Int32) : Rw := upd (upd w (15 + N) v) 0 (w 0 + 1)
theorem x_scent {σ : Sig} {n : Nat} {G : Gd} {v : Int32} (hs : 0 ≤ (G 2 0).toInt ∧ (G 2 0).toInt < 5) : f10_add n v (xg σ n G) = some (xg σ n (Gsc G (G 2 0).toInt.toNat v)) := by
  have hs' : 0 ≤ (G 2 0).toInt ∧ (G 2 0).toInt < ((5 : Nat) : Int) := hs
  unfold f10_add Gsc
  simp only [nm_ap, bnd_ap, bns_ap, bnx_ap0, bnx_ap1, bnx_ap2, bnx_ap3, bnx_ap4, gz_0, gz_1, dvd_96, dvd_2, dvd_10000, rmd_96, rmd_8, xg_at, xg_0, mr_at, up_xg, up_mr, narz_0, narz_1, i10, i01, i11, i00, ↓reduceIte, e10, e01, e50, e51, e20, e60, e70, e30, e40, Classical.not_not, not_true_eq_false, not_false_eq_true, ast_in hs', p2_if, Nat.reduceEqDiff, ↓reduceIte]
theorem m_scent {τ : Sig} {w : Rw} {v : Int32} (hs : 0 ≤ (w 0).toInt ∧ (w 0).toInt < 5) : f12_addScentAt v (mr τ w) = some (mr τ (Wsc w (w 0).toInt.toNat v)) := by
  have e : (15 + w 0).toInt = 15 + (w 0).toInt := tv_add rfl rfl (by omega)
  have i1 : 0 ≤ (15 + w 0).toInt ∧ (15 + w 0).toInt < ((536 : Nat) : Int) := by omega
  unfold f12_addScentAt Wsc
  simp only [nm_ap, bnd_ap, bns_ap, bnx_ap0, bnx_ap1, bnx_ap2, bnx_ap3, bnx_ap4, gz_0, gz_1, dvd_96, dvd_2, dvd_10000, rmd_96, rmd_8, xg_at, xg_0, mr_at, up_xg, up_mr, narz_0, narz_1, i10, i01, i11, i00, ↓reduceIte, e10, e01, e50, e51, e20, e60, e70, e30, e40, Classical.not_not, not_true_eq_false, not_false_eq_true, al_0, al_1, al_2, al_3, al_4, al_5, al_6, al_7, al_8, al_9, al_10, al_11, al_12, al_13, al_14, ast_in i1, e, show (15 + (w 0).toInt).toNat = 15 + (w 0).toInt.toNat by omega]
  simp (disch := omega) only [upd_at, upd_ne, p2_at, p2_ne, as_0, up_mr]
theorem rg_sc {G : Gd} {w : Rw} (h : RG G w) {N : Nat} (hN : (G 2 0).toInt = N) (hN5 : N < 5) (v : Int32) (hB : Bd G) : RG (Gsc G N v) (Wsc w N v) := by
  have en : (G 2 0 + 1).toInt = N + 1 := tv_add hN rfl (by omega)
  unfold Gsc Wsc
  refine ⟨?_, fun i9 hi9 => ?_, fun b9 hb9 => ?_, fun q9 hq9 => ?_, fun k9 hk9 => ?_⟩
  · simp (disch := omega) only [upd_at, upd_ne, p2_at, p2_ne, h.s0, h.s1, h.s2, h.s3, h.s4, h.s5, h.s6, h.s7, h.s8, h.s9, h.s10, h.s11, h.s12, h.s13, h.s14, and_self, and_true, true_and, en]
  · simp (disch := omega) only [upd_at, upd_ne, p2_at, p2_ne, en] at hi9
    by_cases e9_ : i9 = N
    · subst e9_
      simp (disch := omega) only [upd_at, upd_ne, p2_at, p2_ne, and_self, and_true, true_and, en]
    · have hh := h.2.1 i9 (by omega)
      simp (disch := omega) only [upd_at, upd_ne, p2_at, p2_ne, hh, and_self, and_true, true_and]
  · simp (disch := omega) only [upd_at, upd_ne, p2_at, p2_ne] at hb9
    have hh := h.2.2.1 b9 hb9
    simp (disch := omega) only [upd_at, upd_ne, p2_at, p2_ne, hh, and_self, and_true, true_and]
  · simp (disch := omega) only [upd_at, upd_ne, p2_at, p2_ne] at hq9
    have hh := h.2.2.2.1 q9 hq9
    simp (disch := omega) only [upd_at, upd_ne, p2_at, p2_ne, hh, and_self, and_true, true_and]
  · simp (disch := omega) only [upd_at, upd_ne, p2_at, p2_ne] at hk9
    have hh := h.2.2.2.2 k9 hk9
    simp (disch := omega) only [upd_at, upd_ne, p2_at, p2_ne, hh, and_self, and_true, true_and]
-- single cells
def Gwlk (G : Gd) (a b : Int32) : Gd := p2 (p2 G 1 1 a) 1 2 b
theorem x_walk {σ : Sig} {n : Nat} {G : Gd} {a b : Int32} : f3_letPeacocksWalk n a b (xg σ n G) = some (xg σ n (Gwlk G a b)) := by
  unfold f3_letPeacocksWalk Gwlk
  simp only [nm_ap, bnd_ap, bns_ap, bnx_ap0, bnx_ap1, bnx_ap2, bnx_ap3, bnx_ap4, gz_0, gz_1, dvd_96, dvd_2, dvd_10000, rmd_96, rmd_8, xg_at, xg_0, mr_at, up_xg, up_mr, narz_0, narz_1, i10, i01, i11, i00, ↓reduceIte, e10, e01, e50, e51, e20, e60, e70, e30, e40, Classical.not_not, not_true_eq_false, not_false_eq_true]
theorem rg_wlk {G : Gd} {w : Rw} (h : RG G w) (a b : Int32) (hB : Bd G) : RG (Gwlk G a b) (upd (upd w 7 a) 8 b) := by
  unfold Gwlk
  refine ⟨?_, fun i9 hi9 => ?_, fun b9 hb9 => ?_, fun q9 hq9 => ?_, fun k9 hk9 => ?_⟩
  · simp (disch := omega) only [upd_at, upd_ne, p2_at, p2_ne, h.s0, h.s1, h.s2, h.s3, h.s4, h.s5, h.s6, h.s7, h.s8, h.s9, h.s10, h.s11, h.s12, h.s13, h.s14, and_self, and_true, true_and]
  · simp (disch := omega) only [upd_at, upd_ne, p2_at, p2_ne] at hi9
    have hh := h.2.1 i9 hi9
    simp (disch := omega) only [upd_at, upd_ne, p2_at, p2_ne, hh, and_self, and_true, true_and]
  · simp (disch := omega) only [upd_at, upd_ne, p2_at, p2_ne] at hb9
    have hh := h.2.2.1 b9 hb9
    simp (disch := omega) only [upd_at, upd_ne, p2_at, p2_ne, hh, and_self, and_true, true_and]
  · simp (disch := omega) only [upd_at, upd_ne, p2_at, p2_ne] at hq9
    have hh := h.2.2.2.1 q9 hq9
    simp (disch := omega) only [upd_at, upd_ne, p2_at, p2_ne, hh, and_self, and_true, true_and]
  · simp (disch := omega) only [upd_at, upd_ne, p2_at, p2_ne] at hk9
    have hh := h.2.2.2.2 k9 hk9
    simp (disch := omega) only [upd_at, upd_ne, p2_at, p2_ne, hh, and_self, and_true, true_and]
theorem rg_rate {G : Gd} {w : Rw} (h : RG G w) (a : Int32) (hB : Bd G) : RG (p2 G 2 1 a) (upd w 5 a) := by
  refine ⟨?_, fun i9 hi9 => ?_, fun b9 hb9 => ?_, fun q9 hq9 => ?_, fun k9 hk9 => ?_⟩
  · simp (disch := omega) only [upd_at, upd_ne, p2_at, p2_ne, h.s0, h.s1, h.s2, h.s3, h.s4, h.s5, h.s6, h.s7, h.s8, h.s9, h.s10, h.s11, h.s12, h.s13, h.s14, and_self, and_true, true_and]
  · simp (disch := omega) only [upd_at, upd_ne, p2_at, p2_ne] at hi9
    have hh := h.2.1 i9 hi9
    simp (disch := omega) only [upd_at, upd_ne, p2_at, p2_ne, hh, and_self, and_true, true_and]
  · simp (disch := omega) only [upd_at, upd_ne, p2_at, p2_ne] at hb9
    have hh := h.2.2.1 b9 hb9
    simp (disch := omega) only [upd_at, upd_ne, p2_at, p2_ne, hh, and_self, and_true, true_and]
  · simp (disch := omega) only [upd_at, upd_ne, p2_at, p2_ne] at hq9
    have hh := h.2.2.2.1 q9 hq9
    simp (disch := omega) only [upd_at, upd_ne, p2_at, p2_ne, hh, and_self, and_true, true_and]
  · simp (disch := omega) only [upd_at, upd_ne, p2_at, p2_ne] at hk9
    have hh := h.2.2.2.2 k9 hk9
    simp (disch := omega) only [upd_at, upd_ne, p2_at, p2_ne, hh, and_self, and_true, true_and]
theorem rg_pause {G : Gd} {w : Rw} (h : RG G w) (a : Int32) (hB : Bd G) : RG (p2 G 0 6 a) (upd w 6 a) := by
  refine ⟨?_, fun i9 hi9 => ?_, fun b9 hb9 => ?_, fun q9 hq9 => ?_, fun k9 hk9 => ?_⟩
  · simp (disch := omega) only [upd_at, upd_ne, p2_at, p2_ne, h.s0, h.s1, h.s2, h.s3, h.s4, h.s5, h.s6, h.s7, h.s8, h.s9, h.s10, h.s11, h.s12, h.s13, h.s14, and_self, and_true, true_and]
  · simp (disch := omega) only [upd_at, upd_ne, p2_at, p2_ne] at hi9
    have hh := h.2.1 i9 hi9
    simp (disch := omega) only [upd_at, upd_ne, p2_at, p2_ne, hh, and_self, and_true, true_and]
  · simp (disch := omega) only [upd_at, upd_ne, p2_at, p2_ne] at hb9
    have hh := h.2.2.1 b9 hb9
    simp (disch := omega) only [upd_at, upd_ne, p2_at, p2_ne, hh, and_self, and_true, true_and]
  · simp (disch := omega) only [upd_at, upd_ne, p2_at, p2_ne] at hq9
    have hh := h.2.2.2.1 q9 hq9
    simp (disch := omega) only [upd_at, upd_ne, p2_at, p2_ne, hh, and_self, and_true, true_and]
  · simp (disch := omega) only [upd_at, upd_ne, p2_at, p2_ne] at hk9
    have hh := h.2.2.2.2 k9 hk9
    simp (disch := omega) only [upd_at, upd_ne, p2_at, p2_ne, hh, and_self, and_true, true_and]
theorem rg_price {G : Gd} {w : Rw} (h : RG G w) {i : Nat} (hi : (i : Int) < (G 2 0).toInt) (a : Int32) (hB : Bd G) : RG (p2 G 7 i a) (upd w (15 + i) a) := by
  refine ⟨?_, fun i9 hi9 => ?_, fun b9 hb9 => ?_, fun q9 hq9 => ?_, fun k9 hk9 => ?_⟩
  · simp (disch := omega) only [upd_at, upd_ne, p2_at, p2_ne, h.s0, h.s1, h.s2, h.s3, h.s4, h.s5, h.s6, h.s7, h.s8, h.s9, h.s10, h.s11, h.s12, h.s13, h.s14, and_self, and_true, true_and]
  · simp (disch := omega) only [upd_at, upd_ne, p2_at, p2_ne] at hi9
    have hh := h.2.1 i9 hi9
    by_cases e9_ : i9 = i
    · subst e9_
      simp (disch := omega) only [upd_at, upd_ne, p2_at, p2_ne, hh, and_self, and_true, true_and]
    · simp (disch := omega) only [upd_at, upd_ne, p2_at, p2_ne, hh, and_self, and_true, true_and]
  · simp (disch := omega) only [upd_at, upd_ne, p2_at, p2_ne] at hb9
    have hh := h.2.2.1 b9 hb9
    simp (disch := omega) only [upd_at, upd_ne, p2_at, p2_ne, hh, and_self, and_true, true_and]
  · simp (disch := omega) only [upd_at, upd_ne, p2_at, p2_ne] at hq9
    have hh := h.2.2.2.1 q9 hq9
    simp (disch := omega) only [upd_at, upd_ne, p2_at, p2_ne, hh, and_self, and_true, true_and]
  · simp (disch := omega) only [upd_at, upd_ne, p2_at, p2_ne] at hk9
    have hh := h.2.2.2.2 k9 hk9
    simp (disch := omega) only [upd_at, upd_ne, p2_at, p2_ne, hh, and_self, and_true, true_and]
