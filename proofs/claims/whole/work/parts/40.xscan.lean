/-! THE MATHEMATICS, 21: the class reads a token -/
theorem x_b169 {σ : Sig} {G : Gd} {k : Int32} {a e : Nat} {x o : Int32} (ha : a ≤ e) (he : e ≤ 500) : f6_readNext_b169 (xg (XB σ k (Int32.ofNat a) (Int32.ofNat e) x o) 10 G) = some (xg (XB σ (if k = 1 then (if e - a ≤ 4 then 1 else 4) else k) (Int32.ofNat a) (Int32.ofNat e) x o) 10 G) := by
  unfold f6_readNext_b169
  simp only [nm_ap, bnd_ap, bns_ap, bnx_ap0, bnx_ap1, bnx_ap2, bnx_ap3, bnx_ap4, gz_0, gz_1, dvd_96, dvd_2, dvd_10000, rmd_96, rmd_8, xg_at, xg_0, mr_at, up_xg, up_mr, narz_0, narz_1, i10, i01, i11, i00, ↓reduceIte, e10, e01, e50, e51, e20, e60, e70, e30, e40, Classical.not_not, not_true_eq_false, not_false_eq_true, up_xg0, XB_42, XB_43, XB_44, XB_u42]
  by_cases c : k = 1
  · rw [if_pos c, if_pos c, ← Int32.ofNat_sub _ _ ha]
    by_cases c2 : e - a ≤ 4
    · rw [if_pos c2, if_pos (by rw [Int32.le_iff_toInt_le, oN _ (by omega), show (4 : Int32).toInt = 4 from rfl]; omega), c]
    · rw [if_neg c2, if_neg (by rw [Int32.le_iff_toInt_le, oN _ (by omega), show (4 : Int32).toInt = 4 from rfl]; omega)]
  · rw [if_neg c, if_neg c]
theorem x_sp_l {T : Nat → Int32} {L : Nat} {σ : Sig} (hT : TX T L σ) (G : Gd) : ∀ (fu p : Nat) (k e x o : Int32), p ≤ L → L < fu + p → f6_readNext_b8 fu (xg (XB σ k (Int32.ofNat p) e x o) 10 G) = f6_readNext_b60 (xg (XB σ k (Int32.ofNat (tA T L p)) e x o) 10 G) := by
  obtain ⟨hL, h5, hb⟩ := hT
  intro fu
  induction fu with
  | zero => intro p k e x o h1 h2; omega
  | succ fu ih =>
    intro p k e x o h1 h2
    have ep := oN p (by omega)
    have eL := oN L (by omega)
    rw [f6_readNext_b8]
    simp only [nm_ap, bnd_ap, bns_ap, bnx_ap0, bnx_ap1, bnx_ap2, bnx_ap3, bnx_ap4, gz_0, gz_1, dvd_96, dvd_2, dvd_10000, rmd_96, rmd_8, xg_at, xg_0, mr_at, up_xg, up_mr, narz_0, narz_1, i10, i01, i11, i00, ↓reduceIte, e10, e01, e50, e51, e20, e60, e70, e30, e40, Classical.not_not, not_true_eq_false, not_false_eq_true, XB_41, XB_43, XB_5, hL]
    by_cases c : L ≤ p
    · rw [if_pos (by rw [Int32.le_iff_toInt_le, ep, eL]; omega), show tA T L p = p from rn_end c]
    · rw [if_neg (by rw [Int32.le_iff_toInt_le, ep, eL]; omega), ald_in (by rw [ep]; omega), ald_in (by rw [ep]; omega)]
      simp only [ep, Int.toNat_natCast]
      have hs := bt_s (hb p (by omega))
      have hr : f6_readNext_b47 (f6_readNext_b8 fu) (xg (XB σ k (Int32.ofNat p) e x o) 10 G) = f6_readNext_b8 fu (xg (XB σ k (Int32.ofNat (p + 1)) e x o) 10 G) := by
        unfold f6_readNext_b47
        simp only [nm_ap, bnd_ap, bns_ap, bnx_ap0, bnx_ap1, bnx_ap2, bnx_ap3, bnx_ap4, gz_0, gz_1, dvd_96, dvd_2, dvd_10000, rmd_96, rmd_8, xg_at, xg_0, mr_at, up_xg, up_mr, narz_0, narz_1, i10, i01, i11, i00, ↓reduceIte, e10, e01, e50, e51, e20, e60, e70, e30, e40, Classical.not_not, not_true_eq_false, not_false_eq_true, up_xg0, XB_43, XB_u43, oN1]
      by_cases c2 : sB (T p) = true
      · have hA : tA T L p = tA T L (p + 1) := rn_step (P := fun i => sB (T i)) (by omega) c2
        rw [hr, ih (p + 1) k e x o (by omega) (by omega), hA]
        rcases hs.mpr c2 with q | q
        · rw [if_pos q]
        · by_cases q0 : σ 0 5 p = 32
          · rw [if_pos q0]
          · rw [if_neg q0, if_pos q]
      · have hA : tA T L p = p := rn_stop (P := fun i => sB (T i)) (by simpa using c2)
        rw [if_neg (fun q => c2 (hs.mp (Or.inl q))), if_neg (fun q => c2 (hs.mp (Or.inr q))), hA]
theorem x_run_l {T : Nat → Int32} {L : Nat} {σ : Sig} (hT : TX T L σ) (G : Gd) {a : Nat} (k : Int32) (hk : k = 0 ∨ k = 1) (x o : Int32) : ∀ (fu p : Nat), a ≤ p → p ≤ L → L < fu + p → f6_readNext_b111 fu (xg (XB σ k (Int32.ofNat a) (Int32.ofNat p) x o) 10 G) = f6_readNext_b169 (xg (XB σ k (Int32.ofNat a) (Int32.ofNat (rn (fun i => if k = 0 then lB (T i) else dB (T i)) (L - p) p)) x o) 10 G) := by
  obtain ⟨hL, h5, hb⟩ := hT
  intro fu
  induction fu with
  | zero => intro p h0 h1 h2; omega
  | succ fu ih =>
    intro p h0 h1 h2
    have ep := oN p (by omega)
    have eL := oN L (by omega)
    rw [f6_readNext_b111]
    have h126 : f6_readNext_b126 (f6_readNext_b111 fu) (xg (XB σ k (Int32.ofNat a) (Int32.ofNat p) x o) 10 G) = f6_readNext_b169 (xg (XB σ k (Int32.ofNat a) (Int32.ofNat (rn (fun i => if k = 0 then lB (T i) else dB (T i)) (L - p) p)) x o) 10 G) := by
      unfold f6_readNext_b126
      simp only [nm_ap, bnd_ap, bns_ap, bnx_ap0, bnx_ap1, bnx_ap2, bnx_ap3, bnx_ap4, gz_0, gz_1, dvd_96, dvd_2, dvd_10000, rmd_96, rmd_8, xg_at, xg_0, mr_at, up_xg, up_mr, narz_0, narz_1, i10, i01, i11, i00, ↓reduceIte, e10, e01, e50, e51, e20, e60, e70, e30, e40, Classical.not_not, not_true_eq_false, not_false_eq_true, up_xg0, XB_41, XB_42, XB_44, XB_5, XB_u44, hL]
      by_cases c : L ≤ p
      · rw [if_pos (by rw [Int32.le_iff_toInt_le, ep, eL]; omega), rn_end c]
      · rw [if_neg (by rw [Int32.le_iff_toInt_le, ep, eL]; omega), ald_in (by rw [ep]; omega)]
        simp only [ep, Int.toNat_natCast, kind_of (hb p (by omega)), bnd_ap, oN1]
        have ihp := ih (p + 1) (by omega) (by omega) (by omega)
        have kd : ∀ y, lB y = true → dB y = false := by
          intro y hy
          unfold lB dB at *
          simp only [Bool.and_eq_true, decide_eq_true_eq] at hy
          simp only [Bool.and_eq_false_iff, decide_eq_false_iff_not]
          omega
        rcases hk with rfl | rfl
        · simp only [↓reduceIte] at ihp ⊢
          by_cases c2 : lB (T p) = true
          · rw [if_pos c2, if_pos rfl, ihp, rn_step (P := fun i => lB (T i)) (by omega) c2]
          · rw [if_neg c2, rn_stop (P := fun i => lB (T i)) (by simpa using c2), if_neg]
            repeat' split
            all_goals decide
        · simp only [e10, ↓reduceIte] at ihp ⊢
          by_cases c2 : dB (T p) = true
          · have c3 : ¬ lB (T p) = true := fun q => by rw [kd _ q] at c2; exact absurd c2 (by decide)
            rw [if_neg c3, if_pos c2, if_pos rfl, ihp, rn_step (P := fun i => dB (T i)) (by omega) c2]
          · rw [rn_stop (P := fun i => dB (T i)) (by simpa using c2), if_neg]
            rw [if_neg c2]
            repeat' split
            all_goals decide
    simp only [nm_ap, bnd_ap, bns_ap, bnx_ap0, bnx_ap1, bnx_ap2, bnx_ap3, bnx_ap4, gz_0, gz_1, dvd_96, dvd_2, dvd_10000, rmd_96, rmd_8, xg_at, xg_0, mr_at, up_xg, up_mr, narz_0, narz_1, i10, i01, i11, i00, ↓reduceIte, e10, e01, e50, e51, e20, e60, e70, e30, e40, Classical.not_not, not_true_eq_false, not_false_eq_true, XB_42]
    rcases hk with rfl | rfl
    · rw [if_pos rfl, h126]
    · rw [if_neg (by decide), if_pos rfl, h126]
/-- a token is read: kind, start, end -/
theorem x_read {T : Nat → Int32} {L : Nat} {σ : Sig} (hT : TX T L σ) (G : Gd) (k a x o : Int32) {p : Nat} (hp : p ≤ L) : f6_readNext (xg (XB σ k a (Int32.ofNat p) x o) 10 G) = some (xg (XB σ (Int32.ofNat (tK T L p)) (Int32.ofNat (tA T L p)) (Int32.ofNat (tE T L p)) x o) 10 G) := by
  have hTT := hT
  obtain ⟨hL, h5, hb⟩ := hT
  have hA := tA_le T hp
  have hE := tE_le T hp
  have hAE := tEa_ge T L (tA T L p)
  unfold f6_readNext
  simp only [nm_eq, bnd_eq, bns_eq, xg_at, xg_0, mr_at, up_xg, up_mr, ↓reduceIte, e10, e01, e50, e51, e20, e60, e70, e30, e40, Classical.not_not, not_true_eq_false, not_false_eq_true, up_xg0, XB_44, XB_u43]
  rw [x_sp_l hTT G FU p k (Int32.ofNat p) x o hp (by unfold FU; omega)]
  unfold tE tK
  unfold tE at hE
  generalize tA T L p = q at hA hE hAE ⊢
  have eq := oN q (by omega)
  have eL := oN L (by omega)
  unfold f6_readNext_b60
  simp only [nm_eq, bnd_eq, bns_eq, xg_at, xg_0, mr_at, up_xg, up_mr, ↓reduceIte, e10, e01, e50, e51, e20, e60, e70, e30, e40, Classical.not_not, not_true_eq_false, not_false_eq_true, up_xg0, XB_43, XB_44, XB_41, XB_5, XB_u44, XB_u42, XB_u43, hL]
  by_cases c : q = L
  · rw [if_pos (by rw [c]), tKa_end T (by omega)]
    unfold tEa
    rw [if_neg (by omega)]
    rfl
  · rw [if_neg (fun e => c (by have h := congrArg Int32.toInt e; rw [eq, eL] at h; omega)), ald_in (by rw [eq]; omega)]
    simp only [eq, Int.toNat_natCast, kind_of (hb q (by omega)), bnd_eq, oN1]
    have cq : q < L := by omega
    by_cases c2 : lB (T q) = true
    · have e1 : tEa T L q = rn (fun i => lB (T i)) (L - q) q := by unfold tEa; rw [if_pos cq, if_pos c2]
      have e2 : tKa T L q = 0 := by unfold tKa; rw [if_pos cq, if_pos c2]
      rw [rn_step (P := fun i => lB (T i)) cq c2] at e1
      rw [if_pos c2, x_run_l hTT G 0 (Or.inl rfl) x o FU (q + 1) (by omega) (by omega) (by unfold FU; omega)]
      simp only [↓reduceIte]
      rw [← e1, x_b169 hAE (by omega), e2, if_neg (by decide)]
      rfl
    · by_cases c3 : dB (T q) = true
      · have e1 : tEa T L q = rn (fun i => dB (T i)) (L - q) q := by unfold tEa; rw [if_pos cq, if_neg c2, if_pos c3]
        have e2 : tKa T L q = if tEa T L q - q ≤ 4 then 1 else 4 := by unfold tKa; rw [if_pos cq, if_neg c2, if_pos c3]
        rw [rn_step (P := fun i => dB (T i)) cq c3] at e1
        rw [if_neg c2, if_pos c3, x_run_l hTT G 1 (Or.inr rfl) x o FU (q + 1) (by omega) (by omega) (by unfold FU; omega)]
        simp only [e10, ↓reduceIte]
        rw [← e1, x_b169 hAE (by omega), e2, if_pos rfl]
        split <;> rfl
      · have e1 : tEa T L q = q + 1 := by unfold tEa; rw [if_pos cq, if_neg c2, if_neg c3]
        have e2 : tKa T L q = if (T q).toInt = 59 then 2 else 4 := by unfold tKa; rw [if_pos cq, if_neg c2, if_neg c3]
        rw [if_neg c2, if_neg c3, e1, e2]
        rw [show FU = 999 + 1 from rfl, f6_readNext_b111]
        simp only [nm_eq, bnd_eq, bns_eq, xg_at, xg_0, mr_at, up_xg, up_mr, ↓reduceIte, e10, e01, e50, e51, e20, e60, e70, e30, e40, Classical.not_not, not_true_eq_false, not_false_eq_true, XB_42]
        by_cases c4 : (T q).toInt = 59
        · rw [if_pos c4, if_pos c4, if_neg (by decide), if_neg (by decide), x_b169 (by omega) (by omega), if_neg (by decide)]
          rfl
        · rw [if_neg c4, if_neg c4, if_neg (by decide), if_neg (by decide), x_b169 (by omega) (by omega), if_neg (by decide)]
          rfl
