/-! THE MATHEMATICS, 3: the questions of both: prices, fines, refunds, refusals -/
theorem oN (k : Nat) (h : k < 2147483648) : (Int32.ofNat k).toInt = k := Int32.toInt_ofNat_of_lt h
theorem oN1 (k : Nat) : Int32.ofNat k + 1 = Int32.ofNat (k + 1) := (Int32.ofNat_add k 1).symm
theorem and1 (x : Int32) : x &&& 1 = 0 ∨ x &&& 1 = 1 := by
  have h : (x.toBitVec &&& 1#32) = 0#32 ∨ (x.toBitVec &&& 1#32) = 1#32 := by
    have e : (x.toBitVec &&& 1#32).toNat = x.toBitVec.toNat % 2 := by rw [BitVec.toNat_and]; exact Nat.and_one_is_mod _
    rcases (show x.toBitVec.toNat % 2 = 0 ∨ x.toBitVec.toNat % 2 = 1 by omega) with q | q
    · left; apply BitVec.eq_of_toNat_eq; rw [e, q]; rfl
    · right; apply BitVec.eq_of_toNat_eq; rw [e, q]; rfl
  rcases h with h | h
  · left; exact Int32.toBitVec_inj.mp h
  · right; exact Int32.toBitVec_inj.mp h
-- prices
def pzs (set : Int32) (f : Nat → Int32) : Nat → Int32
  | 0 => 0
  | k + 1 => if (set >>> (Int32.ofNat k &&& 31)) &&& 1 = 1 then pzs set f k + f k else pzs set f k
def pct (d : Int32) : Int32 := if d.toInt < 3 then 100 else if d.toInt < 6 then 90 else 80
def Pz (N : Nat) (f : Nat → Int32) (set days kind : Int32) : Int32 := pzs set f N * days * (if kind.toInt = 1 then 60 else 100) * pct days / 10000
theorem pzs_congr {set : Int32} {f g : Nat → Int32} {N : Nat} (h : ∀ i, i < N → f i = g i) : pzs set f N = pzs set g N := by
  induction N with
  | zero => rfl
  | succ N ih => simp only [pzs]; rw [ih (fun i hi => h i (by omega)), h N (by omega)]
theorem Pz_congr {set days kind : Int32} {f g : Nat → Int32} {N : Nat} (h : ∀ i, i < N → f i = g i) : Pz N f set days kind = Pz N g set days kind := by
  unfold Pz; rw [pzs_congr h]
theorem pzs_in {set : Int32} {f : Nat → Int32} {N : Nat} (hN : N ≤ 5) (h : ∀ i, i < N → 1 ≤ (f i).toInt ∧ (f i).toInt ≤ 99) : 0 ≤ (pzs set f N).toInt ∧ (pzs set f N).toInt ≤ 99 * N := by
  induction N with
  | zero => simp only [pzs]; decide
  | succ N ih =>
    have h1 := ih (by omega) (fun i hi => h i (by omega)); have h2 := h N (by omega)
    simp only [pzs]
    split
    · rw [ti_add (by omega)]; omega
    · omega
theorem pct_in (d : Int32) : 80 ≤ (pct d).toInt ∧ (pct d).toInt ≤ 100 := by
  unfold pct; split
  · decide
  · split <;> decide
theorem mul_in {a b : Int} {A B : Int} (ha : 0 ≤ a ∧ a ≤ A) (hb : 0 ≤ b ∧ b ≤ B) : 0 ≤ a * b ∧ a * b ≤ A * B := ⟨Int.mul_nonneg ha.1 hb.1, Int.mul_le_mul ha.2 hb.2 hb.1 (by omega)⟩
theorem Pz_in {set days kind : Int32} {f : Nat → Int32} {N : Nat} (hN : N ≤ 5) (h : ∀ i, i < N → 1 ≤ (f i).toInt ∧ (f i).toInt ≤ 99) (hd : 1 ≤ days.toInt ∧ days.toInt ≤ 14) : 0 ≤ (Pz N f set days kind).toInt ∧ (Pz N f set days kind).toInt ≤ 6930 := by
  have h1 := pzs_in (set := set) hN h
  have h2 := mul_in (a := (pzs set f N).toInt) (A := 495) (b := days.toInt) (B := 14) (by omega) (by omega)
  have e2 : (pzs set f N * days).toInt = (pzs set f N).toInt * days.toInt := tv_mul rfl rfl (by omega)
  have h3 : 60 ≤ (if kind.toInt = 1 then 60 else 100 : Int32).toInt ∧ (if kind.toInt = 1 then 60 else 100 : Int32).toInt ≤ 100 := by split <;> decide
  have h4 := mul_in (a := (pzs set f N * days).toInt) (A := 6930) (b := (if kind.toInt = 1 then 60 else 100 : Int32).toInt) (B := 100) (by omega) (by omega)
  have e4 : (pzs set f N * days * (if kind.toInt = 1 then 60 else 100)).toInt = (pzs set f N * days).toInt * (if kind.toInt = 1 then 60 else 100 : Int32).toInt := tv_mul rfl rfl (by omega)
  have h5 := pct_in days
  have h6 := mul_in (a := (pzs set f N * days * (if kind.toInt = 1 then 60 else 100)).toInt) (A := 693000) (b := (pct days).toInt) (B := 100) (by omega) (by omega)
  have e6 : (pzs set f N * days * (if kind.toInt = 1 then 60 else 100) * pct days).toInt = (pzs set f N * days * (if kind.toInt = 1 then 60 else 100)).toInt * (pct days).toInt := tv_mul rfl rfl (by omega)
  have e7 : (Pz N f set days kind).toInt = (pzs set f N * days * (if kind.toInt = 1 then 60 else 100) * pct days).toInt / 10000 := tv_div rfl rfl (by omega)
  omega
theorem x_pct (d : Int32) : f10_percentForDays d = some (pct d) := by
  unfold f10_percentForDays pct
  simp only [Int32.lt_iff_toInt_lt, Int32.le_iff_toInt_le, ← Int32.toInt_inj, Int32.reduceToInt, Int.reduceEq, Int.reduceLT, Int.reduceLE, Int.reduceNeg, ↓reduceIte, not_true_eq_false, not_false_eq_true]
  repeat' split
  all_goals first | rfl | (exfalso; omega)
theorem x_price_l {σ : Sig} {n : Nat} {G : Gd} {set days kind : Int32} (hs : 0 ≤ (G 2 0).toInt ∧ (G 2 0).toInt ≤ 5) : ∀ (fu k : Nat), k ≤ (G 2 0).toInt.toNat → (G 2 0).toInt.toNat < fu + k → f10_priceOfPass_b6 n fu set days kind (pzs set (G 7) k) (Int32.ofNat k) (xg σ n G) = some (Pz (G 2 0).toInt.toNat (G 7) set days kind) := by
  intro fu
  induction fu with
  | zero => intro k h1 h2; omega
  | succ fu ih =>
    intro k h1 h2
    have ek := oN k (by omega)
    rw [f10_priceOfPass_b6]
    simp only [nm_ap, bnd_ap, bns_ap, bnx_ap0, bnx_ap1, bnx_ap2, bnx_ap3, bnx_ap4, gz_0, gz_1, dvd_96, dvd_2, dvd_10000, rmd_96, rmd_8, xg_at, xg_0, mr_at, up_xg, up_mr, narz_0, narz_1, i10, i01, i11, i00, ↓reduceIte, e10, e01, e50, e51, e20, e60, e70, e30, e40, Classical.not_not, not_true_eq_false, not_false_eq_true]
    by_cases hk : k = (G 2 0).toInt.toNat
    · rw [if_pos (by rw [Int32.le_iff_toInt_le, ek]; omega)]
      unfold f10_priceOfPass_b55
      simp only [nm_ap, bnd_ap, bns_ap, bnx_ap0, bnx_ap1, bnx_ap2, bnx_ap3, bnx_ap4, gz_0, gz_1, dvd_96, dvd_2, dvd_10000, rmd_96, rmd_8, xg_at, xg_0, mr_at, up_xg, up_mr, narz_0, narz_1, i10, i01, i11, i00, ↓reduceIte, e10, e01, e50, e51, e20, e60, e70, e30, e40, Classical.not_not, not_true_eq_false, not_false_eq_true, x_pct]
      subst hk
      unfold Pz
      simp only [← Int32.toInt_inj, Int32.reduceToInt]
      split <;> rfl
    · rw [if_neg (by rw [Int32.le_iff_toInt_le, ek]; omega)]
      have q := ih (k + 1) (by omega) (by omega)
      unfold f10_priceOfPass_b37
      simp only [nm_ap, bnd_ap, bns_ap, bnx_ap0, bnx_ap1, bnx_ap2, bnx_ap3, bnx_ap4, gz_0, gz_1, dvd_96, dvd_2, dvd_10000, rmd_96, rmd_8, xg_at, xg_0, mr_at, up_xg, up_mr, narz_0, narz_1, i10, i01, i11, i00, ↓reduceIte, e10, e01, e50, e51, e20, e60, e70, e30, e40, Classical.not_not, not_true_eq_false, not_false_eq_true, oN1]
      split
      · rename_i hb
        rw [ald_in (by rw [ek]; omega), ek]
        simp only [nm_ap, bnd_ap, bns_ap, bnx_ap0, bnx_ap1, bnx_ap2, bnx_ap3, bnx_ap4, gz_0, gz_1, dvd_96, dvd_2, dvd_10000, rmd_96, rmd_8, xg_at, xg_0, mr_at, up_xg, up_mr, narz_0, narz_1, i10, i01, i11, i00, ↓reduceIte, e10, e01, e50, e51, e20, e60, e70, e30, e40, Classical.not_not, not_true_eq_false, not_false_eq_true, pzs, hb, if_true, Int.toNat_natCast] at q ⊢
        exact q
      · rename_i hb
        simp only [pzs, hb, if_false] at q
        exact q
theorem x_price {σ : Sig} {n : Nat} {G : Gd} {set days kind : Int32} (hs : 0 ≤ (G 2 0).toInt ∧ (G 2 0).toInt ≤ 5) : f10_priceOfPass n set days kind (xg σ n G) = some (Pz (G 2 0).toInt.toNat (G 7) set days kind) := x_price_l hs FU 0 (by omega) (by unfold FU; omega)
theorem m_price_l {τ : Sig} {w : Rw} {set days kind : Int32} (hs : 0 ≤ (w 0).toInt ∧ (w 0).toInt ≤ 5) (hk2 : kind.toInt = 0 ∨ kind.toInt = 1) : ∀ (fu k : Nat), k ≤ (w 0).toInt.toNat → (w 0).toInt.toNat < fu + k → f12_priceFor_b6 fu set days kind (pzs set (fun i => w (15 + i)) k) (Int32.ofNat k) (mr τ w) = some (Pz (w 0).toInt.toNat (fun i => w (15 + i)) set days kind) := by
  intro fu
  induction fu with
  | zero => intro k h1 h2; omega
  | succ fu ih =>
    intro k h1 h2
    have ek := oN k (by omega)
    rw [f12_priceFor_b6]
    simp only [nm_ap, bnd_ap, bns_ap, bnx_ap0, bnx_ap1, bnx_ap2, bnx_ap3, bnx_ap4, gz_0, gz_1, dvd_96, dvd_2, dvd_10000, rmd_96, rmd_8, xg_at, xg_0, mr_at, up_xg, up_mr, narz_0, narz_1, i10, i01, i11, i00, ↓reduceIte, e10, e01, e50, e51, e20, e60, e70, e30, e40, Classical.not_not, not_true_eq_false, not_false_eq_true, al_0, al_1, al_2, al_3, al_4, al_5, al_6, al_7, al_8, al_9, al_10, al_11, al_12, al_13, al_14]
    by_cases hk : k = (w 0).toInt.toNat
    · rw [if_pos (by rw [Int32.le_iff_toInt_le, ek]; omega)]
      unfold f12_priceFor_b75 f12_priceFor_b92
      simp only [nm_ap, bnd_ap, bns_ap, bnx_ap0, bnx_ap1, bnx_ap2, bnx_ap3, bnx_ap4, gz_0, gz_1, dvd_96, dvd_2, dvd_10000, rmd_96, rmd_8, xg_at, xg_0, mr_at, up_xg, up_mr, narz_0, narz_1, i10, i01, i11, i00, ↓reduceIte, e10, e01, e50, e51, e20, e60, e70, e30, e40, Classical.not_not, not_true_eq_false, not_false_eq_true]
      subst hk
      unfold Pz pct
      simp only [Int32.lt_iff_toInt_lt, Int32.le_iff_toInt_le, ← Int32.toInt_inj, Int32.reduceToInt, Int.reduceEq, Int.reduceLT, Int.reduceLE, Int.reduceNeg, ↓reduceIte, not_true_eq_false, not_false_eq_true]
      rcases hk2 with h | h <;> simp only [h, Int.reduceEq, reduceIte] <;> (repeat' split) <;> first | rfl | (exfalso; omega)
    · rw [if_neg (by rw [Int32.le_iff_toInt_le, ek]; omega)]
      have q := ih (k + 1) (by omega) (by omega)
      unfold f12_priceFor_b43
      simp only [nm_ap, bnd_ap, bns_ap, bnx_ap0, bnx_ap1, bnx_ap2, bnx_ap3, bnx_ap4, gz_0, gz_1, dvd_96, dvd_2, dvd_10000, rmd_96, rmd_8, xg_at, xg_0, mr_at, up_xg, up_mr, narz_0, narz_1, i10, i01, i11, i00, ↓reduceIte, e10, e01, e50, e51, e20, e60, e70, e30, e40, Classical.not_not, not_true_eq_false, not_false_eq_true, oN1]
      split
      · rename_i hb
        have e15 : (15 + Int32.ofNat k).toInt = 15 + k := tv_add rfl ek (by omega)
        rw [ald_in (by rw [e15]; omega), e15]
        simp only [nm_ap, bnd_ap, bns_ap, bnx_ap0, bnx_ap1, bnx_ap2, bnx_ap3, bnx_ap4, gz_0, gz_1, dvd_96, dvd_2, dvd_10000, rmd_96, rmd_8, xg_at, xg_0, mr_at, up_xg, up_mr, narz_0, narz_1, i10, i01, i11, i00, ↓reduceIte, e10, e01, e50, e51, e20, e60, e70, e30, e40, Classical.not_not, not_true_eq_false, not_false_eq_true, pzs, hb, if_true] at q ⊢
        rw [show (15 + (k : Int)).toNat = 15 + k by omega]
        exact q
      · rename_i hb
        simp only [pzs, hb, if_false] at q
        simp only [nm_ap, bnd_ap, bns_ap, bnx_ap0, bnx_ap1, bnx_ap2, bnx_ap3, bnx_ap4, gz_0, gz_1, dvd_96, dvd_2, dvd_10000, rmd_96, rmd_8, xg_at, xg_0, mr_at, up_xg, up_mr, narz_0, narz_1, i10, i01, i11, i00, ↓reduceIte, e10, e01, e50, e51, e20, e60, e70, e30, e40, Classical.not_not, not_true_eq_false, not_false_eq_true, Int32.add_zero]
        exact q
/-- the price that a pass has by the prices as they are now -/
def Pr (G : Gd) (set days kind : Int32) : Int32 := Pz (G 2 0).toInt.toNat (G 7) set days kind
theorem m_price {τ : Sig} {G : Gd} {w : Rw} {set days kind : Int32} (h0 : w 0 = G 2 0) (h1 : ∀ i : Nat, (i : Int) < (G 2 0).toInt → w (15 + i) = G 7 i) (hs : 0 ≤ (G 2 0).toInt ∧ (G 2 0).toInt ≤ 5) (hk2 : kind.toInt = 0 ∨ kind.toInt = 1) : f12_priceFor set days kind (mr τ w) = some (Pr G set days kind) := by
  have q := m_price_l (τ := τ) (w := w) (set := set) (days := days) (kind := kind) (by rw [h0]; exact hs) hk2 FU 0 (by omega) (by rw [h0]; unfold FU; omega)
  rw [h0] at q
  rw [Pz_congr (g := G 7) (fun i hi => h1 i (by omega))] at q
  exact q
theorem Pr_in {G : Gd} (hi : Iv G) {set days kind : Int32} (hd : 1 ≤ days.toInt ∧ days.toInt ≤ 14) : 0 ≤ (Pr G set days kind).toInt ∧ (Pr G set days kind).toInt ≤ 6930 := by
  have h0 := hi.1
  exact Pz_in (by omega) (fun i hi' => hi.2.1 i (by omega)) hd
theorem Pr_congr {G G' : Gd} {set days kind : Int32} (h2 : G' 2 0 = G 2 0) (h7 : G' 7 = G 7) : Pr G' set days kind = Pr G set days kind := by
  unfold Pr; rw [h2, h7]
-- fines
def Fn (G : Gd) (b : Nat) (bl : Int32) : Int32 := if Se G b (Td G) = 0 then G 2 1 * bl else 2 * G 2 1 * bl
theorem x_fine {σ : Sig} {n : Nat} {G : Gd} {b bl : Int32} (hb : 0 ≤ b.toInt ∧ b.toInt < 8) : f4_fineToday n b bl (xg σ n G) = some (Fn G b.toInt.toNat bl) := by
  unfold f4_fineToday f4_fineToday_b37 Fn
  simp only [nm_ap, bnd_ap, bns_ap, bnx_ap0, bnx_ap1, bnx_ap2, bnx_ap3, bnx_ap4, gz_0, gz_1, dvd_96, dvd_2, dvd_10000, rmd_96, rmd_8, xg_at, xg_0, mr_at, up_xg, up_mr, narz_0, narz_1, i10, i01, i11, i00, ↓reduceIte, e10, e01, e50, e51, e20, e60, e70, e30, e40, Classical.not_not, not_true_eq_false, not_false_eq_true, x_today, x_season hb]
  split <;> rfl
theorem m_fine {G : Gd} {w : Rw} (h : RG G w) (hi : Iv G) (τ : Sig) {b bl : Int32} (hb : 0 ≤ b.toInt ∧ b.toInt < (G 3 0).toInt) : f12_fine b bl (mr τ w) = some (Fn G b.toInt.toNat bl) := by
  unfold f12_fine f12_fine_b21 Fn
  simp only [nm_ap, bnd_ap, bns_ap, bnx_ap0, bnx_ap1, bnx_ap2, bnx_ap3, bnx_ap4, gz_0, gz_1, dvd_96, dvd_2, dvd_10000, rmd_96, rmd_8, xg_at, xg_0, mr_at, up_xg, up_mr, narz_0, narz_1, i10, i01, i11, i00, ↓reduceIte, e10, e01, e50, e51, e20, e60, e70, e30, e40, Classical.not_not, not_true_eq_false, not_false_eq_true, al_0, al_1, al_2, al_3, al_4, al_5, al_6, al_7, al_8, al_9, al_10, al_11, al_12, al_13, al_14, h.s5, m_season h hi τ hb]
  split
  · rw [Int32.mul_one, Int32.mul_comm]
  · rw [Int32.mul_comm (bl * G 2 1) 2, Int32.mul_comm bl, Int32.mul_assoc]
theorem Fn_in {G : Gd} (hi : Iv G) {b : Nat} {bl : Int32} (hb : 1 ≤ bl.toInt ∧ bl.toInt ≤ 9) : 0 ≤ (Fn G b bl).toInt ∧ (Fn G b bl).toInt ≤ 40 * bl.toInt := by
  have h0 := hi.1
  have h1 := mul_in (a := (G 2 1).toInt) (A := 20) (b := bl.toInt) (B := bl.toInt) (by omega) (by omega)
  have e1 : (G 2 1 * bl).toInt = (G 2 1).toInt * bl.toInt := tv_mul rfl rfl (by omega)
  have e0 : (2 * G 2 1).toInt = 2 * (G 2 1).toInt := tv_mul rfl rfl (by omega)
  have h2 := mul_in (a := 2 * (G 2 1).toInt) (A := 40) (b := bl.toInt) (B := bl.toInt) (by omega) (by omega)
  have e2 : (2 * G 2 1 * bl).toInt = 2 * (G 2 1).toInt * bl.toInt := tv_mul e0 rfl (by omega)
  unfold Fn
  split <;> omega
