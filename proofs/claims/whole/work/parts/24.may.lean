/-! THE MATHEMATICS, 5: what may be done; counts -/
theorem x_has0 {σ : Sig} {n : Nat} {G : Gd} {b : Int32} : f0_has n b (xg σ n G) = some (if 0 ≤ b.toInt ∧ b.toInt < (G 3 0).toInt then 1 else 0) := by
  unfold f0_has
  simp only [nm_ap, bnd_ap, bns_ap, bnx_ap0, bnx_ap1, bnx_ap2, bnx_ap3, bnx_ap4, gz_0, gz_1, dvd_96, dvd_2, dvd_10000, rmd_96, rmd_8, xg_at, xg_0, mr_at, up_xg, up_mr, narz_0, narz_1, i10, i01, i11, i00, ↓reduceIte, e10, e01, e50, e51, e20, e60, e70, e30, e40, Classical.not_not, not_true_eq_false, not_false_eq_true, Int32.lt_iff_toInt_lt, Int32.le_iff_toInt_le, ← Int32.toInt_inj, Int32.reduceToInt, Int.reduceEq, Int.reduceLT, Int.reduceLE, Int.reduceNeg, ↓reduceIte, not_true_eq_false, not_false_eq_true]
  repeat' split
  all_goals first | rfl | (exfalso; omega)
theorem x_has2 {σ : Sig} {n : Nat} {G : Gd} {b : Int32} : f2_has n b (xg σ n G) = some (if 0 ≤ b.toInt ∧ b.toInt < (G 5 0).toInt then 1 else 0) := by
  unfold f2_has
  simp only [nm_ap, bnd_ap, bns_ap, bnx_ap0, bnx_ap1, bnx_ap2, bnx_ap3, bnx_ap4, gz_0, gz_1, dvd_96, dvd_2, dvd_10000, rmd_96, rmd_8, xg_at, xg_0, mr_at, up_xg, up_mr, narz_0, narz_1, i10, i01, i11, i00, ↓reduceIte, e10, e01, e50, e51, e20, e60, e70, e30, e40, Classical.not_not, not_true_eq_false, not_false_eq_true, Int32.lt_iff_toInt_lt, Int32.le_iff_toInt_le, ← Int32.toInt_inj, Int32.reduceToInt, Int.reduceEq, Int.reduceLT, Int.reduceLE, Int.reduceNeg, ↓reduceIte, not_true_eq_false, not_false_eq_true]
  repeat' split
  all_goals first | rfl | (exfalso; omega)
theorem x_has7 {σ : Sig} {n : Nat} {G : Gd} {b : Int32} : f7_has n b (xg σ n G) = some (if 0 ≤ b.toInt ∧ b.toInt < (G 4 0).toInt then 1 else 0) := by
  unfold f7_has
  simp only [nm_ap, bnd_ap, bns_ap, bnx_ap0, bnx_ap1, bnx_ap2, bnx_ap3, bnx_ap4, gz_0, gz_1, dvd_96, dvd_2, dvd_10000, rmd_96, rmd_8, xg_at, xg_0, mr_at, up_xg, up_mr, narz_0, narz_1, i10, i01, i11, i00, ↓reduceIte, e10, e01, e50, e51, e20, e60, e70, e30, e40, Classical.not_not, not_true_eq_false, not_false_eq_true, Int32.lt_iff_toInt_lt, Int32.le_iff_toInt_le, ← Int32.toInt_inj, Int32.reduceToInt, Int.reduceEq, Int.reduceLT, Int.reduceLE, Int.reduceNeg, ↓reduceIte, not_true_eq_false, not_false_eq_true]
  repeat' split
  all_goals first | rfl | (exfalso; omega)
theorem x_has10 {σ : Sig} {n : Nat} {G : Gd} {b : Int32} : f10_has n b (xg σ n G) = some (if 0 ≤ b.toInt ∧ b.toInt < (G 2 0).toInt then 1 else 0) := by
  unfold f10_has
  simp only [nm_ap, bnd_ap, bns_ap, bnx_ap0, bnx_ap1, bnx_ap2, bnx_ap3, bnx_ap4, gz_0, gz_1, dvd_96, dvd_2, dvd_10000, rmd_96, rmd_8, xg_at, xg_0, mr_at, up_xg, up_mr, narz_0, narz_1, i10, i01, i11, i00, ↓reduceIte, e10, e01, e50, e51, e20, e60, e70, e30, e40, Classical.not_not, not_true_eq_false, not_false_eq_true, Int32.lt_iff_toInt_lt, Int32.le_iff_toInt_le, ← Int32.toInt_inj, Int32.reduceToInt, Int.reduceEq, Int.reduceLT, Int.reduceLE, Int.reduceNeg, ↓reduceIte, not_true_eq_false, not_false_eq_true]
  repeat' split
  all_goals first | rfl | (exfalso; omega)
theorem x_room0 {σ : Sig} {n : Nat} {G : Gd} : f0_hasRoom n (xg σ n G) = some (if (G 3 0).toInt < 8 then 1 else 0) := by
  unfold f0_hasRoom
  simp only [nm_ap, bnd_ap, bns_ap, bnx_ap0, bnx_ap1, bnx_ap2, bnx_ap3, bnx_ap4, gz_0, gz_1, dvd_96, dvd_2, dvd_10000, rmd_96, rmd_8, xg_at, xg_0, mr_at, up_xg, up_mr, narz_0, narz_1, i10, i01, i11, i00, ↓reduceIte, e10, e01, e50, e51, e20, e60, e70, e30, e40, Classical.not_not, not_true_eq_false, not_false_eq_true, Int32.lt_iff_toInt_lt, Int32.le_iff_toInt_le, ← Int32.toInt_inj, Int32.reduceToInt, Int.reduceEq, Int.reduceLT, Int.reduceLE, Int.reduceNeg, ↓reduceIte, not_true_eq_false, not_false_eq_true]
  repeat' split
  all_goals first | rfl | (exfalso; omega)
theorem x_room10 {σ : Sig} {n : Nat} {G : Gd} : f10_hasRoom n (xg σ n G) = some (if (G 2 0).toInt < 5 then 1 else 0) := by
  unfold f10_hasRoom
  simp only [nm_ap, bnd_ap, bns_ap, bnx_ap0, bnx_ap1, bnx_ap2, bnx_ap3, bnx_ap4, gz_0, gz_1, dvd_96, dvd_2, dvd_10000, rmd_96, rmd_8, xg_at, xg_0, mr_at, up_xg, up_mr, narz_0, narz_1, i10, i01, i11, i00, ↓reduceIte, e10, e01, e50, e51, e20, e60, e70, e30, e40, Classical.not_not, not_true_eq_false, not_false_eq_true, Int32.lt_iff_toInt_lt, Int32.le_iff_toInt_le, ← Int32.toInt_inj, Int32.reduceToInt, Int.reduceEq, Int.reduceLT, Int.reduceLE, Int.reduceNeg, ↓reduceIte, not_true_eq_false, not_false_eq_true]
  repeat' split
  all_goals first | rfl | (exfalso; omega)
theorem x_canSell {σ : Sig} {n : Nat} {G : Gd} : f4_canSellPass n (xg σ n G) = some (if (G 4 0).toInt < 30 ∧ (G 5 0).toInt < 50 then 1 else 0) := by
  have a : f7_hasRoom n (xg σ n G) = some (if (G 4 0).toInt < 30 then 1 else 0) := by
    unfold f7_hasRoom
    simp only [nm_ap, bnd_ap, bns_ap, bnx_ap0, bnx_ap1, bnx_ap2, bnx_ap3, bnx_ap4, gz_0, gz_1, dvd_96, dvd_2, dvd_10000, rmd_96, rmd_8, xg_at, xg_0, mr_at, up_xg, up_mr, narz_0, narz_1, i10, i01, i11, i00, ↓reduceIte, e10, e01, e50, e51, e20, e60, e70, e30, e40, Classical.not_not, not_true_eq_false, not_false_eq_true, Int32.lt_iff_toInt_lt, Int32.le_iff_toInt_le, ← Int32.toInt_inj, Int32.reduceToInt, Int.reduceEq, Int.reduceLT, Int.reduceLE, Int.reduceNeg, ↓reduceIte, not_true_eq_false, not_false_eq_true]
    repeat' split
    all_goals first | rfl | (exfalso; omega)
  have b : f2_hasRoom n (xg σ n G) = some (if (G 5 0).toInt < 50 then 1 else 0) := by
    unfold f2_hasRoom
    simp only [nm_ap, bnd_ap, bns_ap, bnx_ap0, bnx_ap1, bnx_ap2, bnx_ap3, bnx_ap4, gz_0, gz_1, dvd_96, dvd_2, dvd_10000, rmd_96, rmd_8, xg_at, xg_0, mr_at, up_xg, up_mr, narz_0, narz_1, i10, i01, i11, i00, ↓reduceIte, e10, e01, e50, e51, e20, e60, e70, e30, e40, Classical.not_not, not_true_eq_false, not_false_eq_true, Int32.lt_iff_toInt_lt, Int32.le_iff_toInt_le, ← Int32.toInt_inj, Int32.reduceToInt, Int.reduceEq, Int.reduceLT, Int.reduceLE, Int.reduceNeg, ↓reduceIte, not_true_eq_false, not_false_eq_true]
    repeat' split
    all_goals first | rfl | (exfalso; omega)
  unfold f4_canSellPass
  simp only [nm_ap, bnd_ap, bns_ap, bnx_ap0, bnx_ap1, bnx_ap2, bnx_ap3, bnx_ap4, gz_0, gz_1, dvd_96, dvd_2, dvd_10000, rmd_96, rmd_8, xg_at, xg_0, mr_at, up_xg, up_mr, narz_0, narz_1, i10, i01, i11, i00, ↓reduceIte, e10, e01, e50, e51, e20, e60, e70, e30, e40, Classical.not_not, not_true_eq_false, not_false_eq_true, a, b]
  repeat' split
  all_goals first | rfl | (exfalso; omega)
theorem m_soldOut {τ : Sig} {G : Gd} {w : Rw} (h : RG G w) (hi : Iv G) : f12_soldOut (mr τ w) = some (if (G 4 0).toInt < 30 ∧ (G 5 0).toInt < 50 then 0 else 1) := by
  have h0 := hi.1
  unfold f12_soldOut f12_soldOut_b22
  simp only [nm_ap, bnd_ap, bns_ap, bnx_ap0, bnx_ap1, bnx_ap2, bnx_ap3, bnx_ap4, gz_0, gz_1, dvd_96, dvd_2, dvd_10000, rmd_96, rmd_8, xg_at, xg_0, mr_at, up_xg, up_mr, narz_0, narz_1, i10, i01, i11, i00, ↓reduceIte, e10, e01, e50, e51, e20, e60, e70, e30, e40, Classical.not_not, not_true_eq_false, not_false_eq_true, al_0, al_1, al_2, al_3, al_4, al_5, al_6, al_7, al_8, al_9, al_10, al_11, al_12, al_13, al_14, h.s2, h.s3, Int32.lt_iff_toInt_lt, Int32.le_iff_toInt_le, ← Int32.toInt_inj, Int32.reduceToInt, Int.reduceEq, Int.reduceLT, Int.reduceLE, Int.reduceNeg, ↓reduceIte, not_true_eq_false, not_false_eq_true]
  repeat' split
  all_goals first | rfl | (exfalso; omega)
/-- the set of all scents -/
def SA (G : Gd) : Int32 := (1 : Int32) <<< (G 2 0 &&& 31) - 1
theorem x_all {σ : Sig} {n : Nat} {G : Gd} : f10_setOfAllScents n (xg σ n G) = some (SA G) := by
  unfold f10_setOfAllScents
  simp only [nm_ap, bnd_ap, bns_ap, bnx_ap0, bnx_ap1, bnx_ap2, bnx_ap3, bnx_ap4, gz_0, gz_1, dvd_96, dvd_2, dvd_10000, rmd_96, rmd_8, xg_at, xg_0, mr_at, up_xg, up_mr, narz_0, narz_1, i10, i01, i11, i00, ↓reduceIte, e10, e01, e50, e51, e20, e60, e70, e30, e40, Classical.not_not, not_true_eq_false, not_false_eq_true]
  rfl
theorem m_all {τ : Sig} {G : Gd} {w : Rw} (h : RG G w) : f12_allScents (mr τ w) = some (SA G) := by
  unfold f12_allScents
  simp only [nm_ap, bnd_ap, bns_ap, bnx_ap0, bnx_ap1, bnx_ap2, bnx_ap3, bnx_ap4, gz_0, gz_1, dvd_96, dvd_2, dvd_10000, rmd_96, rmd_8, xg_at, xg_0, mr_at, up_xg, up_mr, narz_0, narz_1, i10, i01, i11, i00, ↓reduceIte, e10, e01, e50, e51, e20, e60, e70, e30, e40, Classical.not_not, not_true_eq_false, not_false_eq_true, al_0, al_1, al_2, al_3, al_4, al_5, al_6, al_7, al_8, al_9, al_10, al_11, al_12, al_13, al_14, h.s0]
  rfl
theorem x_canGo {σ : Sig} {n : Nat} {G : Gd} (hi : Iv G) {t : Int32} (ht : 0 ≤ t.toInt ∧ t.toInt ≤ 9999) : f3_canGoOn n t (xg σ n G) = some (if (G 1 0).toInt + t.toInt ≤ 9599 then 1 else 0) := by
  have h0 := hi.1
  have e : (G 1 0 + t).toInt = (G 1 0).toInt + t.toInt := tv_add rfl rfl (by omega)
  unfold f3_canGoOn
  simp only [nm_ap, bnd_ap, bns_ap, bnx_ap0, bnx_ap1, bnx_ap2, bnx_ap3, bnx_ap4, gz_0, gz_1, dvd_96, dvd_2, dvd_10000, rmd_96, rmd_8, xg_at, xg_0, mr_at, up_xg, up_mr, narz_0, narz_1, i10, i01, i11, i00, ↓reduceIte, e10, e01, e50, e51, e20, e60, e70, e30, e40, Classical.not_not, not_true_eq_false, not_false_eq_true, Int32.lt_iff_toInt_lt, Int32.le_iff_toInt_le, ← Int32.toInt_inj, Int32.reduceToInt, Int.reduceEq, Int.reduceLT, Int.reduceLE, Int.reduceNeg, ↓reduceIte, not_true_eq_false, not_false_eq_true, e]
  repeat' split
  all_goals first | rfl | (exfalso; omega)
theorem x_hasCard {σ : Sig} {n : Nat} {G : Gd} {p : Int32} (hp : 0 ≤ p.toInt ∧ p.toInt < 30) : f7_hasCard n p (xg σ n G) = some (if (G 20 p.toInt.toNat).toInt = -1 then 0 else 1) := by
  unfold f7_hasCard
  simp only [nm_ap, bnd_ap, bns_ap, bnx_ap0, bnx_ap1, bnx_ap2, bnx_ap3, bnx_ap4, gz_0, gz_1, dvd_96, dvd_2, dvd_10000, rmd_96, rmd_8, xg_at, xg_0, mr_at, up_xg, up_mr, narz_0, narz_1, i10, i01, i11, i00, ↓reduceIte, e10, e01, e50, e51, e20, e60, e70, e30, e40, Classical.not_not, not_true_eq_false, not_false_eq_true, ald_in (show 0 ≤ p.toInt ∧ p.toInt < ((30 : Nat) : Int) from hp), Int32.lt_iff_toInt_lt, Int32.le_iff_toInt_le, ← Int32.toInt_inj, Int32.reduceToInt, Int.reduceEq, Int.reduceLT, Int.reduceLE, Int.reduceNeg, ↓reduceIte, not_true_eq_false, not_false_eq_true]
  repeat' split
  all_goals first | rfl | (exfalso; omega)
abbrev CrP (G : Gd) (p : Nat) : Prop := (G 20 p).toInt = -1 ∧ (G 21 p).toInt = 0 ∧ (G 5 0).toInt < 50
theorem x_canReplace {σ : Sig} {n : Nat} {G : Gd} {p : Int32} (hp : 0 ≤ p.toInt ∧ p.toInt < 30) : f4_canReplaceCard n p (xg σ n G) = some (if CrP G p.toInt.toNat then 1 else 0) := by
  have b : f2_hasRoom n (xg σ n G) = some (if (G 5 0).toInt < 50 then 1 else 0) := by
    unfold f2_hasRoom
    simp only [nm_ap, bnd_ap, bns_ap, bnx_ap0, bnx_ap1, bnx_ap2, bnx_ap3, bnx_ap4, gz_0, gz_1, dvd_96, dvd_2, dvd_10000, rmd_96, rmd_8, xg_at, xg_0, mr_at, up_xg, up_mr, narz_0, narz_1, i10, i01, i11, i00, ↓reduceIte, e10, e01, e50, e51, e20, e60, e70, e30, e40, Classical.not_not, not_true_eq_false, not_false_eq_true, Int32.lt_iff_toInt_lt, Int32.le_iff_toInt_le, ← Int32.toInt_inj, Int32.reduceToInt, Int.reduceEq, Int.reduceLT, Int.reduceLE, Int.reduceNeg, ↓reduceIte, not_true_eq_false, not_false_eq_true]
    repeat' split
    all_goals first | rfl | (exfalso; omega)
  unfold f4_canReplaceCard
  simp only [nm_ap, bnd_ap, bns_ap, bnx_ap0, bnx_ap1, bnx_ap2, bnx_ap3, bnx_ap4, gz_0, gz_1, dvd_96, dvd_2, dvd_10000, rmd_96, rmd_8, xg_at, xg_0, mr_at, up_xg, up_mr, narz_0, narz_1, i10, i01, i11, i00, ↓reduceIte, e10, e01, e50, e51, e20, e60, e70, e30, e40, Classical.not_not, not_true_eq_false, not_false_eq_true, ald_in (show 0 ≤ p.toInt ∧ p.toInt < ((30 : Nat) : Int) from hp), x_hasCard hp, b]
  simp only [Int32.lt_iff_toInt_lt, Int32.le_iff_toInt_le, ← Int32.toInt_inj, Int32.reduceToInt, Int.reduceEq, Int.reduceLT, Int.reduceLE, Int.reduceNeg, ↓reduceIte, not_true_eq_false, not_false_eq_true]
  repeat' split
  all_goals first | rfl | (exfalso; omega)
theorem m_cannotReplace {τ : Sig} {G : Gd} {w : Rw} (h : RG G w) (hi : Iv G) {p : Int32} (hp : 0 ≤ p.toInt ∧ p.toInt < (G 4 0).toInt) : f12_cannotReplace p (mr τ w) = some (if CrP G p.toInt.toNat then 0 else 1) := by
  have h0 := hi.1
  have h1 := hi.p (p := p.toInt.toNat) (by omega)
  have hp3 : 0 ≤ p.toInt ∧ p.toInt < 30 := by omega
  have hn : ((p.toInt.toNat : Nat) : Int) < (G 4 0).toInt := by omega
  unfold f12_cannotReplace f12_cannotReplace_b32
  simp only [nm_ap, bnd_ap, bns_ap, bnx_ap0, bnx_ap1, bnx_ap2, bnx_ap3, bnx_ap4, gz_0, gz_1, dvd_96, dvd_2, dvd_10000, rmd_96, rmd_8, xg_at, xg_0, mr_at, up_xg, up_mr, narz_0, narz_1, i10, i01, i11, i00, ↓reduceIte, e10, e01, e50, e51, e20, e60, e70, e30, e40, Classical.not_not, not_true_eq_false, not_false_eq_true, al_0, al_1, al_2, al_3, al_4, al_5, al_6, al_7, al_8, al_9, al_10, al_11, al_12, al_13, al_14, mo_5 hp3, h.p5 hn, mo_6 hp3, h.p6 hn, h.s3, Int32.lt_iff_toInt_lt, Int32.le_iff_toInt_le, ← Int32.toInt_inj, Int32.reduceToInt, Int.reduceEq, Int.reduceLT, Int.reduceLE, Int.reduceNeg, ↓reduceIte, not_true_eq_false, not_false_eq_true]
  repeat' split
  all_goals first | rfl | (exfalso; omega)
abbrev CcP (G : Gd) (p : Nat) : Prop := (G 21 p).toInt = 0 ∧ (Td G).toInt ≤ (G 16 p).toInt + (G 17 p).toInt - 1
theorem x_final {σ : Sig} {n : Nat} {G : Gd} {p : Int32} (hp : 0 ≤ p.toInt ∧ p.toInt < 30) : f7_finalDay n p (xg σ n G) = some (G 16 p.toInt.toNat + G 17 p.toInt.toNat - 1) := by
  unfold f7_finalDay
  simp only [nm_ap, bnd_ap, bns_ap, bnx_ap0, bnx_ap1, bnx_ap2, bnx_ap3, bnx_ap4, gz_0, gz_1, dvd_96, dvd_2, dvd_10000, rmd_96, rmd_8, xg_at, xg_0, mr_at, up_xg, up_mr, narz_0, narz_1, i10, i01, i11, i00, ↓reduceIte, e10, e01, e50, e51, e20, e60, e70, e30, e40, Classical.not_not, not_true_eq_false, not_false_eq_true, ald_in (show 0 ≤ p.toInt ∧ p.toInt < ((30 : Nat) : Int) from hp)]
theorem fin_in {G : Gd} (hi : Iv G) {p : Nat} (hp : (p : Int) < (G 4 0).toInt) : (G 16 p + G 17 p - 1).toInt = (G 16 p).toInt + (G 17 p).toInt - 1 := by
  have h1 := hi.p hp
  have e1 : (G 16 p + G 17 p).toInt = (G 16 p).toInt + (G 17 p).toInt := tv_add rfl rfl (by omega)
  exact tv_sub e1 rfl (by omega)
theorem x_canChange {σ : Sig} {n : Nat} {G : Gd} (hi : Iv G) {p : Int32} (hp : 0 ≤ p.toInt ∧ p.toInt < (G 4 0).toInt) : f4_canChangePass n p (xg σ n G) = some (if CcP G p.toInt.toNat then 1 else 0) := by
  have h0 := hi.1
  have hp3 : 0 ≤ p.toInt ∧ p.toInt < 30 := by omega
  have e := fin_in hi (p := p.toInt.toNat) (by omega)
  unfold f4_canChangePass
  simp only [nm_ap, bnd_ap, bns_ap, bnx_ap0, bnx_ap1, bnx_ap2, bnx_ap3, bnx_ap4, gz_0, gz_1, dvd_96, dvd_2, dvd_10000, rmd_96, rmd_8, xg_at, xg_0, mr_at, up_xg, up_mr, narz_0, narz_1, i10, i01, i11, i00, ↓reduceIte, e10, e01, e50, e51, e20, e60, e70, e30, e40, Classical.not_not, not_true_eq_false, not_false_eq_true, ald_in (show 0 ≤ p.toInt ∧ p.toInt < ((30 : Nat) : Int) from hp3), x_final hp3, x_today, Int32.lt_iff_toInt_lt, Int32.le_iff_toInt_le, ← Int32.toInt_inj, Int32.reduceToInt, Int.reduceEq, Int.reduceLT, Int.reduceLE, Int.reduceNeg, ↓reduceIte, not_true_eq_false, not_false_eq_true, e]
  repeat' split
  all_goals first | rfl | (exfalso; omega)
theorem m_isOver {τ : Sig} {G : Gd} {w : Rw} (h : RG G w) (hi : Iv G) {p : Int32} (hp : 0 ≤ p.toInt ∧ p.toInt < (G 4 0).toInt) : f12_isOver p (mr τ w) = some (if CcP G p.toInt.toNat then 0 else 1) := by
  have h0 := hi.1
  have h1 := hi.p (p := p.toInt.toNat) (by omega)
  have hp3 : 0 ≤ p.toInt ∧ p.toInt < 30 := by omega
  have hn : ((p.toInt.toNat : Nat) : Int) < (G 4 0).toInt := by omega
  have e := fin_in hi (p := p.toInt.toNat) (by omega)
  unfold f12_isOver f12_isOver_b23 f12_lastOf
  simp only [nm_ap, bnd_ap, bns_ap, bnx_ap0, bnx_ap1, bnx_ap2, bnx_ap3, bnx_ap4, gz_0, gz_1, dvd_96, dvd_2, dvd_10000, rmd_96, rmd_8, xg_at, xg_0, mr_at, up_xg, up_mr, narz_0, narz_1, i10, i01, i11, i00, ↓reduceIte, e10, e01, e50, e51, e20, e60, e70, e30, e40, Classical.not_not, not_true_eq_false, not_false_eq_true, mo_6 hp3, h.p6 hn, mo_1 hp3, h.p1 hn, mo_2 hp3, h.p2 hn, m_today h, Int32.lt_iff_toInt_lt, Int32.le_iff_toInt_le, ← Int32.toInt_inj, Int32.reduceToInt, Int.reduceEq, Int.reduceLT, Int.reduceLE, Int.reduceNeg, ↓reduceIte, not_true_eq_false, not_false_eq_true, e]
  repeat' split
  all_goals first | rfl | (exfalso; omega)
abbrev CpP (G : Gd) (k : Nat) (bl : Int32) : Prop := (G 28 k).toInt = 0 ∧ (G 24 (G 27 k).toInt.toNat).toInt = (G 1 0).toInt ∧ bl.toInt ≤ (G 12 (G 25 (G 27 k).toInt.toNat).toInt.toNat).toInt
theorem x_canPluck {σ : Sig} {n : Nat} {G : Gd} (hi : Iv G) {k bl : Int32} (hk : 0 ≤ k.toInt ∧ k.toInt < (G 5 0).toInt) : f4_canPluck n k bl (xg σ n G) = some (if CpP G k.toInt.toNat bl then 1 else 0) := by
  have h0 := hi.1
  have hk5 : 0 ≤ k.toInt ∧ k.toInt < 50 := by omega
  have h1 := hi.k (k := k.toInt.toNat) (by omega)
  have hp3 : 0 ≤ (G 27 k.toInt.toNat).toInt ∧ (G 27 k.toInt.toNat).toInt < 30 := by omega
  have h2 := hi.p (p := (G 27 k.toInt.toNat).toInt.toNat) (by omega)
  unfold f4_canPluck
  simp only [nm_ap, bnd_ap, bns_ap, bnx_ap0, bnx_ap1, bnx_ap2, bnx_ap3, bnx_ap4, gz_0, gz_1, dvd_96, dvd_2, dvd_10000, rmd_96, rmd_8, xg_at, xg_0, mr_at, up_xg, up_mr, narz_0, narz_1, i10, i01, i11, i00, ↓reduceIte, e10, e01, e50, e51, e20, e60, e70, e30, e40, Classical.not_not, not_true_eq_false, not_false_eq_true, ald_in (show 0 ≤ k.toInt ∧ k.toInt < ((50 : Nat) : Int) from hk5), ald_in (show 0 ≤ (G 27 k.toInt.toNat).toInt ∧ (G 27 k.toInt.toNat).toInt < ((30 : Nat) : Int) from hp3), x_has0]
  by_cases hl : (G 24 (G 27 k.toInt.toNat).toInt.toNat).toInt = (G 1 0).toInt
  · have hb : 0 ≤ (G 25 (G 27 k.toInt.toNat).toInt.toNat).toInt ∧ (G 25 (G 27 k.toInt.toNat).toInt.toNat).toInt < (G 3 0).toInt := by omega
    have hb8 : 0 ≤ (G 25 (G 27 k.toInt.toNat).toInt.toNat).toInt ∧ (G 25 (G 27 k.toInt.toNat).toInt.toNat).toInt < ((8 : Nat) : Int) := by omega
    have hl2 : G 24 (G 27 k.toInt.toNat).toInt.toNat = G 1 0 := ti_ext hl
    simp only [ald_in hb8, hb, hl2, and_self, reduceIte, e10]
    simp only [Int32.lt_iff_toInt_lt, Int32.le_iff_toInt_le, ← Int32.toInt_inj, Int32.reduceToInt, Int.reduceEq, Int.reduceLT, Int.reduceLE, Int.reduceNeg, ↓reduceIte, not_true_eq_false, not_false_eq_true, true_and, reduceIte]
    by_cases h28 : (G 28 k.toInt.toNat).toInt = 0
    · simp only [h28, reduceIte, true_and]
      repeat' split
      all_goals first | rfl | (exfalso; omega)
    · simp only [h28, reduceIte, false_and]
      rw [if_neg (fun z : CpP G k.toInt.toNat bl => h28 z.1)]
  · simp only [Int32.lt_iff_toInt_lt, Int32.le_iff_toInt_le, ← Int32.toInt_inj, Int32.reduceToInt, Int.reduceEq, Int.reduceLT, Int.reduceLE, Int.reduceNeg, ↓reduceIte, not_true_eq_false, not_false_eq_true, hl, reduceIte, false_and, and_false]
    repeat' split
    all_goals first | rfl | (exfalso; omega)
theorem m_cannotPluck {τ : Sig} {G : Gd} {w : Rw} (h : RG G w) (hi : Iv G) {k bl : Int32} (hk : 0 ≤ k.toInt ∧ k.toInt < (G 5 0).toInt) : f12_cannotPluck k bl (mr τ w) = some (if CpP G k.toInt.toNat bl then 0 else 1) := by
  have h0 := hi.1
  have hk5 : 0 ≤ k.toInt ∧ k.toInt < 50 := by omega
  have hkn : ((k.toInt.toNat : Nat) : Int) < (G 5 0).toInt := by omega
  have h1 := hi.k hkn
  have hp3 : 0 ≤ (G 27 k.toInt.toNat).toInt ∧ (G 27 k.toInt.toNat).toInt < 30 := by omega
  have hpn : (((G 27 k.toInt.toNat).toInt.toNat : Nat) : Int) < (G 4 0).toInt := by omega
  have h2 := hi.p hpn
  unfold f12_cannotPluck
  simp only [nm_ap, bnd_ap, bns_ap, bnx_ap0, bnx_ap1, bnx_ap2, bnx_ap3, bnx_ap4, gz_0, gz_1, dvd_96, dvd_2, dvd_10000, rmd_96, rmd_8, xg_at, xg_0, mr_at, up_xg, up_mr, narz_0, narz_1, i10, i01, i11, i00, ↓reduceIte, e10, e01, e50, e51, e20, e60, e70, e30, e40, Classical.not_not, not_true_eq_false, not_false_eq_true, al_0, al_1, al_2, al_3, al_4, al_5, al_6, al_7, al_8, al_9, al_10, al_11, al_12, al_13, al_14, m_passOfCard hk5, h.k0 hkn, m_blocked hk5, h.k1 hkn, mo_9 hp3, h.p9 hpn, mo_10 hp3, h.p10 hpn, h.s4]
  by_cases hl : (G 24 (G 27 k.toInt.toNat).toInt.toNat).toInt = (G 1 0).toInt
  · have hb : 0 ≤ (G 25 (G 27 k.toInt.toNat).toInt.toNat).toInt ∧ (G 25 (G 27 k.toInt.toNat).toInt.toNat).toInt < (G 3 0).toInt := by omega
    have hb8 : 0 ≤ (G 25 (G 27 k.toInt.toNat).toInt.toNat).toInt ∧ (G 25 (G 27 k.toInt.toNat).toInt.toNat).toInt < 8 := by omega
    have hbn : (((G 25 (G 27 k.toInt.toNat).toInt.toNat).toInt.toNat : Nat) : Int) < (G 3 0).toInt := by omega
    simp only [mb_4 hb8, h.b4 hbn, nm_ap, bnd_ap, bns_ap, bnx_ap0, bnx_ap1, bnx_ap2, bnx_ap3, bnx_ap4, gz_0, gz_1, dvd_96, dvd_2, dvd_10000, rmd_96, rmd_8, xg_at, xg_0, mr_at, up_xg, up_mr, narz_0, narz_1, i10, i01, i11, i00, ↓reduceIte, e10, e01, e50, e51, e20, e60, e70, e30, e40, Classical.not_not, not_true_eq_false, not_false_eq_true, Int32.lt_iff_toInt_lt, Int32.le_iff_toInt_le, ← Int32.toInt_inj, Int32.reduceToInt, Int.reduceEq, Int.reduceLT, Int.reduceLE, Int.reduceNeg, ↓reduceIte, not_true_eq_false, not_false_eq_true, hl, true_and]
    repeat' split
    all_goals first | rfl | (exfalso; omega)
  · simp only [Int32.lt_iff_toInt_lt, Int32.le_iff_toInt_le, ← Int32.toInt_inj, Int32.reduceToInt, Int.reduceEq, Int.reduceLT, Int.reduceLE, Int.reduceNeg, ↓reduceIte, not_true_eq_false, not_false_eq_true, hl, reduceIte, false_and, and_false]
    repeat' split
    all_goals first | rfl | (exfalso; omega)
-- used days
theorem x_used {σ : Sig} {n : Nat} {G : Gd} {p : Int32} (hp : 0 ≤ p.toInt ∧ p.toInt < 30) : f7_countUsedDays n p (xg σ n G) = some (bitc (G 22 p.toInt.toNat)) := by
  unfold f7_countUsedDays
  simp only [nm_ap, bnd_ap, bns_ap, bnx_ap0, bnx_ap1, bnx_ap2, bnx_ap3, bnx_ap4, gz_0, gz_1, dvd_96, dvd_2, dvd_10000, rmd_96, rmd_8, xg_at, xg_0, mr_at, up_xg, up_mr, narz_0, narz_1, i10, i01, i11, i00, ↓reduceIte, e10, e01, e50, e51, e20, e60, e70, e30, e40, Classical.not_not, not_true_eq_false, not_false_eq_true, ald_in (show 0 ≤ p.toInt ∧ p.toInt < ((30 : Nat) : Int) from hp)]
def bN (n : Nat) : Nat :=
  let a := n - ((n >>> 1) &&& 1431655765)
  let b := (a &&& 858993459) + ((a >>> 2) &&& 858993459)
  let d := (b + (b >>> 4)) &&& 252645135
  let e := d + (d >>> 8)
  let f := e + (e >>> 16)
  f &&& 63
theorem bN_dec : ∀ a : Fin 128, ∀ b : Fin 128, (a.1 * 128 + b.1 = 0 ∨ bN (a.1 * 128 + b.1) = bN ((a.1 * 128 + b.1) &&& (a.1 * 128 + b.1 - 1)) + 1) ∧ bN (a.1 * 128 + b.1) ≤ 14 ∧ (bN (a.1 * 128 + b.1) = 0 ↔ a.1 * 128 + b.1 = 0) := by decide +kernel
theorem bN_at {n : Nat} (h : n < 16384) : (n = 0 ∨ bN n = bN (n &&& (n - 1)) + 1) ∧ bN n ≤ 14 ∧ (bN n = 0 ↔ n = 0) := by
  have q := bN_dec ⟨n / 128, by omega⟩ ⟨n % 128, by omega⟩
  have e : n / 128 * 128 + n % 128 = n := by omega
  simp only [e] at q
  exact q
theorem and_nat (n m : Nat) : Int32.ofNat n &&& Int32.ofNat m = Int32.ofNat (n &&& m) := by
  rw [← UInt32.toInt32_ofNat', ← UInt32.toInt32_ofNat', ← UInt32.toInt32_ofNat', UInt32.ofNat_and, UInt32.toInt32_and]
theorem shr_nat {n : Nat} (h : n < 4294967296) (c : UInt32) : ((Int32.ofNat n).toUInt32 >>> c).toInt32 = Int32.ofNat (n >>> (c.toNat % 32)) := by
  have h1 : n >>> (c.toNat % 32) ≤ n := Nat.shiftRight_le _ _
  have e : UInt32.ofNat n >>> c = UInt32.ofNat (n >>> (c.toNat % 32)) := by
    apply UInt32.toNat_inj.mp
    rw [UInt32.toNat_shiftRight, UInt32.toNat_ofNat_of_lt' (by omega), UInt32.toNat_ofNat_of_lt' (Nat.lt_of_le_of_lt h1 (by omega))]
  show (UInt32.ofNat n >>> c).toInt32 = (UInt32.ofNat (n >>> (c.toNat % 32))).toInt32
  rw [e]
def g1 (x : Int32) : Int32 := x - ((x.toUInt32 >>> ((1 : Int32).toUInt32 &&& Int32.toUInt32 31)).toInt32 &&& (1431655765 : Int32))
def g2 (a : Int32) : Int32 := (a &&& (858993459 : Int32)) + ((a.toUInt32 >>> ((2 : Int32).toUInt32 &&& Int32.toUInt32 31)).toInt32 &&& (858993459 : Int32))
def g3 (b : Int32) : Int32 := (b + (b.toUInt32 >>> ((4 : Int32).toUInt32 &&& Int32.toUInt32 31)).toInt32) &&& (252645135 : Int32)
def g4 (d : Int32) : Int32 := d + (d.toUInt32 >>> ((8 : Int32).toUInt32 &&& Int32.toUInt32 31)).toInt32
def g5 (d : Int32) : Int32 := d + (d.toUInt32 >>> ((16 : Int32).toUInt32 &&& Int32.toUInt32 31)).toInt32
theorem bitc_g (x : Int32) : bitc x = g5 (g4 (g3 (g2 (g1 x)))) &&& (63 : Int32) := rfl
theorem g1_nat {n : Nat} (h : n < 16384) : g1 (Int32.ofNat n) = Int32.ofNat (n - ((n >>> 1) &&& 1431655765)) := by
  have a0 : (n >>> 1) &&& 1431655765 ≤ n := Nat.le_trans Nat.and_le_left (Nat.shiftRight_le _ _)
  unfold g1
  rw [shr_nat (by omega), show (((1 : Int32).toUInt32 &&& Int32.toUInt32 31).toNat % 32) = 1 from rfl, show (1431655765 : Int32) = Int32.ofNat 1431655765 from rfl, and_nat, ← Int32.ofNat_sub _ _ a0]
theorem g2_nat {a : Nat} (h : a < 16384) : g2 (Int32.ofNat a) = Int32.ofNat ((a &&& 858993459) + ((a >>> 2) &&& 858993459)) := by
  unfold g2
  rw [shr_nat (by omega), show (((2 : Int32).toUInt32 &&& Int32.toUInt32 31).toNat % 32) = 2 from rfl, show (858993459 : Int32) = Int32.ofNat 858993459 from rfl, and_nat, and_nat, ← Int32.ofNat_add]
theorem g3_nat {a : Nat} (h : a < 32768) : g3 (Int32.ofNat a) = Int32.ofNat ((a + (a >>> 4)) &&& 252645135) := by
  unfold g3
  rw [shr_nat (by omega), show (((4 : Int32).toUInt32 &&& Int32.toUInt32 31).toNat % 32) = 4 from rfl, show (252645135 : Int32) = Int32.ofNat 252645135 from rfl, ← Int32.ofNat_add, and_nat]
theorem g4_nat {a : Nat} (h : a < 65536) : g4 (Int32.ofNat a) = Int32.ofNat (a + (a >>> 8)) := by
  unfold g4
  rw [shr_nat (by omega), show (((8 : Int32).toUInt32 &&& Int32.toUInt32 31).toNat % 32) = 8 from rfl, ← Int32.ofNat_add]
theorem g5_nat {a : Nat} (h : a < 131072) : g5 (Int32.ofNat a) = Int32.ofNat (a + (a >>> 16)) := by
  unfold g5
  rw [shr_nat (by omega), show (((16 : Int32).toUInt32 &&& Int32.toUInt32 31).toNat % 32) = 16 from rfl, ← Int32.ofNat_add]
theorem bitc_nat {n : Nat} (h : n < 16384) : bitc (Int32.ofNat n) = Int32.ofNat (bN n) := by
  rw [bitc_g, g1_nat h]
  unfold bN
  dsimp only
  have ha : n - ((n >>> 1) &&& 1431655765) < 16384 := by omega
  generalize n - ((n >>> 1) &&& 1431655765) = a at ha ⊢
  have hb1 : a &&& 858993459 ≤ a := Nat.and_le_left
  have hb2 : (a >>> 2) &&& 858993459 ≤ a := Nat.le_trans Nat.and_le_left (Nat.shiftRight_le _ _)
  rw [g2_nat ha]
  have hb : (a &&& 858993459) + ((a >>> 2) &&& 858993459) < 32768 := by omega
  generalize (a &&& 858993459) + ((a >>> 2) &&& 858993459) = b at hb ⊢
  have hd1 : b >>> 4 ≤ b := Nat.shiftRight_le _ _
  have hd2 : (b + (b >>> 4)) &&& 252645135 ≤ b + (b >>> 4) := Nat.and_le_left
  rw [g3_nat hb]
  have hd : (b + (b >>> 4)) &&& 252645135 < 65536 := by omega
  generalize (b + (b >>> 4)) &&& 252645135 = d at hd ⊢
  have he1 : d >>> 8 ≤ d := Nat.shiftRight_le _ _
  rw [g4_nat hd]
  have he : d + (d >>> 8) < 131072 := by omega
  generalize d + (d >>> 8) = e at he ⊢
  rw [g5_nat he, show (63 : Int32) = Int32.ofNat 63 from rfl, and_nat]
theorem ones_l : ∀ (fu n : Nat) (acc : Int32), n < 16384 → bN n < fu → f12_ones_b4 fu acc (Int32.ofNat n) = some (acc + Int32.ofNat (bN n)) := by
  intro fu
  induction fu with
  | zero => intro n acc h1 h2; omega
  | succ fu ih =>
    intro n acc h1 h2
    have b := bN_at h1
    rw [f12_ones_b4]
    simp only [nm_ap, bnd_ap, bns_ap, bnx_ap0, bnx_ap1, bnx_ap2, bnx_ap3, bnx_ap4, gz_0, gz_1, dvd_96, dvd_2, dvd_10000, rmd_96, rmd_8, xg_at, xg_0, mr_at, up_xg, up_mr, narz_0, narz_1, i10, i01, i11, i00, ↓reduceIte, e10, e01, e50, e51, e20, e60, e70, e30, e40, Classical.not_not, not_true_eq_false, not_false_eq_true]
    by_cases hz : n = 0
    · subst hz
      rw [if_pos (show Int32.ofNat 0 = 0 from rfl), show bN 0 = 0 from by decide +kernel]
      simp
    · rw [if_neg (fun z => by have := congrArg Int32.toInt z; rw [oN _ (by omega)] at this; exact hz (by have e0 : (0 : Int32).toInt = 0 := rfl; omega))]
      have e : Int32.ofNat n &&& (Int32.ofNat n - 1) = Int32.ofNat (n &&& (n - 1)) := by
        rw [show (1 : Int32) = Int32.ofNat 1 from rfl, ← Int32.ofNat_sub _ _ (by omega), and_nat]
      have h3 : n &&& (n - 1) ≤ n - 1 := Nat.and_le_right
      rw [e, ih (n &&& (n - 1)) (acc + 1) (by omega) (by omega), show bN n = bN (n &&& (n - 1)) + 1 by omega, Int32.ofNat_add, Int32.add_assoc, Int32.add_comm 1]
      rfl
theorem m_ones {x : Int32} (h : 0 ≤ x.toInt ∧ x.toInt < 16384) : f12_ones x = some (bitc x) := by
  have e : Int32.ofNat x.toInt.toNat = x := by
    apply ti_ext
    rw [oN _ (by omega)]
    omega
  have q := bitc_nat (n := x.toInt.toNat) (by omega)
  have b := bN_at (n := x.toInt.toNat) (by omega)
  have o := ones_l FU x.toInt.toNat 0 (by omega) (by unfold FU; omega)
  rw [e] at q o
  rw [q]
  unfold f12_ones
  rw [o, Int32.zero_add]
theorem bitc_in {x : Int32} (h : 0 ≤ x.toInt ∧ x.toInt < 16384) : 0 ≤ (bitc x).toInt ∧ (bitc x).toInt ≤ 14 ∧ ((bitc x).toInt = 0 ↔ x.toInt = 0) := by
  have e : Int32.ofNat x.toInt.toNat = x := by
    apply ti_ext
    rw [oN _ (by omega)]
    omega
  have q := bitc_nat (n := x.toInt.toNat) (by omega)
  have b := bN_at (n := x.toInt.toNat) (by omega)
  rw [e] at q
  rw [q, oN _ (by omega)]
  omega
