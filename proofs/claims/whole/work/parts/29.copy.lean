/-! THE MATHEMATICS, 10: copies -/
def AG (G H : Gd) : Prop :=
  (H 2 0 = G 2 0 ∧ H 3 0 = G 3 0 ∧ H 4 0 = G 4 0 ∧ H 5 0 = G 5 0 ∧ H 1 0 = G 1 0 ∧ H 2 1 = G 2 1 ∧ H 0 6 = G 0 6 ∧ H 1 1 = G 1 1 ∧ H 1 2 = G 1 2 ∧ H 6 0 = G 6 0 ∧ H 6 1 = G 6 1 ∧ H 6 2 = G 6 2 ∧ H 6 3 = G 6 3 ∧ H 6 4 = G 6 4 ∧ H 6 5 = G 6 5)
  ∧ (∀ i : Nat, (i : Int) < (G 2 0).toInt → H 7 i = G 7 i)
  ∧ (∀ b : Nat, (b : Int) < (G 3 0).toInt → H 8 b = G 8 b ∧ H 9 b = G 9 b ∧ H 10 b = G 10 b ∧ H 11 b = G 11 b ∧ H 12 b = G 12 b ∧ H 13 b = G 13 b ∧ H 14 b = G 14 b)
  ∧ (∀ p : Nat, (p : Int) < (G 4 0).toInt → H 15 p = G 15 p ∧ H 16 p = G 16 p ∧ H 17 p = G 17 p ∧ H 18 p = G 18 p ∧ H 19 p = G 19 p ∧ H 20 p = G 20 p ∧ H 21 p = G 21 p ∧ H 22 p = G 22 p ∧ H 23 p = G 23 p ∧ H 24 p = G 24 p ∧ H 25 p = G 25 p ∧ H 26 p = G 26 p)
  ∧ (∀ k : Nat, (k : Int) < (G 5 0).toInt → H 27 k = G 27 k ∧ H 28 k = G 28 k)
theorem AG.s0 {G H : Gd} (h : AG G H) : H 2 0 = G 2 0 := h.1.1
theorem AG.s1 {G H : Gd} (h : AG G H) : H 3 0 = G 3 0 := h.1.2.1
theorem AG.s2 {G H : Gd} (h : AG G H) : H 4 0 = G 4 0 := h.1.2.2.1
theorem AG.s3 {G H : Gd} (h : AG G H) : H 5 0 = G 5 0 := h.1.2.2.2.1
theorem AG.s4 {G H : Gd} (h : AG G H) : H 1 0 = G 1 0 := h.1.2.2.2.2.1
theorem AG.s5 {G H : Gd} (h : AG G H) : H 2 1 = G 2 1 := h.1.2.2.2.2.2.1
theorem AG.s6 {G H : Gd} (h : AG G H) : H 0 6 = G 0 6 := h.1.2.2.2.2.2.2.1
theorem AG.s7 {G H : Gd} (h : AG G H) : H 1 1 = G 1 1 := h.1.2.2.2.2.2.2.2.1
theorem AG.s8 {G H : Gd} (h : AG G H) : H 1 2 = G 1 2 := h.1.2.2.2.2.2.2.2.2.1
theorem AG.s9 {G H : Gd} (h : AG G H) : H 6 0 = G 6 0 := h.1.2.2.2.2.2.2.2.2.2.1
theorem AG.s10 {G H : Gd} (h : AG G H) : H 6 1 = G 6 1 := h.1.2.2.2.2.2.2.2.2.2.2.1
theorem AG.s11 {G H : Gd} (h : AG G H) : H 6 2 = G 6 2 := h.1.2.2.2.2.2.2.2.2.2.2.2.1
theorem AG.s12 {G H : Gd} (h : AG G H) : H 6 3 = G 6 3 := h.1.2.2.2.2.2.2.2.2.2.2.2.2.1
theorem AG.s13 {G H : Gd} (h : AG G H) : H 6 4 = G 6 4 := h.1.2.2.2.2.2.2.2.2.2.2.2.2.2.1
theorem AG.s14 {G H : Gd} (h : AG G H) : H 6 5 = G 6 5 := h.1.2.2.2.2.2.2.2.2.2.2.2.2.2.2
theorem RG.ag {G H : Gd} {w : Rw} (h : RG G w) (a : AG G H) : RG H w := by
  refine ⟨?_, fun i hi => ?_, fun b hb => ?_, fun p hp => ?_, fun k hk => ?_⟩
  · simp only [a.s0, a.s1, a.s2, a.s3, a.s4, a.s5, a.s6, a.s7, a.s8, a.s9, a.s10, a.s11, a.s12, a.s13, a.s14]; exact h.1
  · rw [a.s0] at hi
    rw [a.2.1 i hi]; exact h.2.1 i hi
  · rw [a.s1] at hb
    have q := a.2.2.1 b hb
    simp only [q]; exact h.2.2.1 b hb
  · rw [a.s2] at hp
    have q := a.2.2.2.1 p hp
    simp only [q]; exact h.2.2.2.1 p hp
  · rw [a.s3] at hk
    have q := a.2.2.2.2 k hk
    simp only [q]; exact h.2.2.2.2 k hk
theorem Iv.ag {G H : Gd} (h : Iv G) (a : AG G H) : Iv H := by
  have h0 := h.1
  refine ⟨?_, fun i hi => ?_, fun b hb => ?_, fun p hp => ?_, fun k hk => ?_, ?_⟩
  · simp only [a.s0, a.s1, a.s2, a.s3, a.s4, a.s5, a.s6, a.s7, a.s8, a.s9, a.s10, a.s11, a.s12, a.s13, a.s14]; exact h.1
  · rw [a.s0] at hi
    rw [a.2.1 i hi]; exact h.2.1 i hi
  · rw [a.s1] at hb
    have q := a.2.2.1 b hb
    simp only [q, a.s4]; exact h.b hb
  · rw [a.s2] at hp
    have q := a.2.2.2.1 p hp
    have hh := h.p hp
    simp only [q, a.s4, a.s3, a.s1]
    by_cases e : 0 ≤ (G 25 p).toInt
    · have q2 := a.2.2.1 (G 25 p).toInt.toNat (by omega)
      simp only [q2]; exact hh
    · have : ¬ (G 24 p).toInt = (G 1 0).toInt := by omega
      omega
  · rw [a.s3] at hk
    have q := a.2.2.2.2 k hk
    simp only [q, a.s2]; exact h.k hk
  · rw [a.s2, a.s1]
    rw [sm_congr (f := H 23) (g := G 23) (fun p hp => (a.2.2.2.1 p (by omega)).2.2.2.2.2.2.2.2.1), sm_congr (f := H 13) (g := G 13) (fun b hb => (a.2.2.1 b (by omega)).2.2.2.2.2.1)]
    exact h.2.2.2.2.2
theorem RG.row {G : Gd} {w w' : Rw} (h : RG G w) (hB : Bd G) (e : ∀ j, j < 536 → w' j = w j) : RG G w' := by
  refine ⟨?_, fun i hi => ?_, fun b hb => ?_, fun p hp => ?_, fun k hk => ?_⟩
  · simp (disch := omega) only [e]; exact h.1
  · simp (disch := omega) only [e]; exact h.2.1 i hi
  · simp (disch := omega) only [e]; exact h.2.2.1 b hb
  · simp (disch := omega) only [e]; exact h.2.2.2.1 p hp
  · simp (disch := omega) only [e]; exact h.2.2.2.2 k hk
theorem acp_in {β : Type} {σ : Sig} {g c n g' c' n' : Nat} {k : Int32} {f : Sig → Option β} (h : 0 ≤ k.toInt ∧ k.toInt ≤ n ∧ k.toInt ≤ n') : acp σ g c n g' c' n' 0 0 k f = f (ur σ g' c' (va_cpy (σ g c) (σ g' c') 0 0 k.toInt.toNat)) := by
  unfold acp
  rw [if_neg]
  · rfl
  · rw [show k.toNatClampNeg = k.toInt.toNat from rfl, show (0 : Int32).toNatClampNeg = 0 from rfl, Int32.lt_iff_toInt_lt, Int32.lt_iff_toInt_lt]
    have e0 : (0 : Int32).toInt = 0 := rfl
    omega
theorem cpy_lt (f g : Nat → Int32) {n k : Nat} (h : k < n) : va_cpy f g 0 0 n k = f k := by
  unfold va_cpy
  rw [if_pos ⟨by omega, by omega⟩]
  congr 1
  omega
theorem xg_blk {σ : Sig} {n n1 : Nat} (G : Gd) (c : Nat) (h : ¬ n1 = n) : xg σ n G (n1 + 1) c = σ (n1 + 1) c := xg_ne σ G c (by omega)
def cpl (k : Nat) (f g : Nat → Int32) : Nat → Int32 := fun i => if i < k then f i else g i
theorem cpl_0 (f g : Nat → Int32) : cpl 0 f g = g := by funext i; unfold cpl; rw [if_neg (by omega)]
theorem cpl_s (k : Nat) (f g : Nat → Int32) : upd (cpl k f g) k (f k) = cpl (k + 1) f g := by
  funext i
  unfold upd cpl
  by_cases h : i = k
  · rw [if_pos h, if_pos (by omega), h]
  · rw [if_neg h]
    by_cases h2 : i < k
    · rw [if_pos h2, if_pos (by omega)]
    · rw [if_neg h2, if_neg (by omega)]
theorem cpl_lt {k : Nat} (f g : Nat → Int32) {i : Nat} (h : i < k) : cpl k f g i = f i := if_pos h
theorem pr_self (G : Gd) (c : Nat) : pr G c (G c) = G := by
  funext c'
  unfold pr
  split
  · rename_i h; rw [h]
  · rfl
theorem p2_pr (G : Gd) (c : Nat) (f : Nat → Int32) (k : Nat) (v : Int32) : p2 (pr G c f) c k v = pr G c (upd f k v) := by
  funext c'
  unfold p2 pr
  by_cases h : c' = c
  · rw [if_pos h, if_pos h, if_pos rfl]
  · rw [if_neg h, if_neg h, if_neg h]
theorem x_ret_l {σ : Sig} {n n1 : Nat} {H : Gd} (hn : ¬ n1 = n) (hN : 0 ≤ (H 4 0).toInt ∧ (H 4 0).toInt ≤ 30) (hz : ∀ i : Nat, (i : Int) < (H 4 0).toInt → σ (n1 + 1) 21 i = 0 ∨ σ (n1 + 1) 21 i = 1) : ∀ (fu k : Nat), k ≤ (H 4 0).toInt.toNat → (H 4 0).toInt.toNat < fu + k → f7_copyFrom_b197 n n1 fu (Int32.ofNat k) (xg σ n (pr H 21 (cpl k (σ (n1 + 1) 21) (H 21)))) = some (xg σ n (pr H 21 (cpl (H 4 0).toInt.toNat (σ (n1 + 1) 21) (H 21)))) := by
  intro fu
  induction fu with
  | zero => intro k h1 h2; omega
  | succ fu ih =>
    intro k h1 h2
    have ek := oN k (by omega)
    rw [f7_copyFrom_b197]
    simp only [nm_ap, bnd_ap, bns_ap, bnx_ap0, bnx_ap1, bnx_ap2, bnx_ap3, bnx_ap4, gz_0, gz_1, dvd_96, dvd_2, dvd_10000, rmd_96, rmd_8, xg_at, xg_0, mr_at, up_xg, up_mr, narz_0, narz_1, i10, i01, i11, i00, ↓reduceIte, e10, e01, e50, e51, e20, e60, e70, e30, e40, Classical.not_not, not_true_eq_false, not_false_eq_true, pr_ne H (cpl k (σ (n1 + 1) 21) (H 21)) (show ¬ 4 = 21 by decide), xg_blk _ _ hn]
    by_cases hk : k = (H 4 0).toInt.toNat
    · rw [if_pos (by rw [Int32.le_iff_toInt_le, ek]; omega), hk]
    · rw [if_neg (by rw [Int32.le_iff_toInt_le, ek]; omega), ald_in (by rw [ek]; omega), ek]
      simp only [Int.toNat_natCast]
      rw [narz_ok (hz k (by omega)), ast_in (by rw [ek]; omega), ek]
      simp only [Int.toNat_natCast, nm_ap, bnd_ap, bns_ap, bnx_ap0, bnx_ap1, bnx_ap2, bnx_ap3, bnx_ap4, gz_0, gz_1, dvd_96, dvd_2, dvd_10000, rmd_96, rmd_8, xg_at, xg_0, mr_at, up_xg, up_mr, narz_0, narz_1, i10, i01, i11, i00, ↓reduceIte, e10, e01, e50, e51, e20, e60, e70, e30, e40, Classical.not_not, not_true_eq_false, not_false_eq_true, p2_pr, cpl_s, oN1]
      exact ih (k + 1) (by omega) (by omega)
theorem x_blk_l {σ : Sig} {n n1 : Nat} {H : Gd} (hn : ¬ n1 = n) (hN : 0 ≤ (H 5 0).toInt ∧ (H 5 0).toInt ≤ 50) (hz : ∀ i : Nat, (i : Int) < (H 5 0).toInt → σ (n1 + 1) 28 i = 0 ∨ σ (n1 + 1) 28 i = 1) : ∀ (fu k : Nat), k ≤ (H 5 0).toInt.toNat → (H 5 0).toInt.toNat < fu + k → f2_copyFrom_b27 n n1 fu (Int32.ofNat k) (xg σ n (pr H 28 (cpl k (σ (n1 + 1) 28) (H 28)))) = some (xg σ n (pr H 28 (cpl (H 5 0).toInt.toNat (σ (n1 + 1) 28) (H 28)))) := by
  intro fu
  induction fu with
  | zero => intro k h1 h2; omega
  | succ fu ih =>
    intro k h1 h2
    have ek := oN k (by omega)
    rw [f2_copyFrom_b27]
    simp only [nm_ap, bnd_ap, bns_ap, bnx_ap0, bnx_ap1, bnx_ap2, bnx_ap3, bnx_ap4, gz_0, gz_1, dvd_96, dvd_2, dvd_10000, rmd_96, rmd_8, xg_at, xg_0, mr_at, up_xg, up_mr, narz_0, narz_1, i10, i01, i11, i00, ↓reduceIte, e10, e01, e50, e51, e20, e60, e70, e30, e40, Classical.not_not, not_true_eq_false, not_false_eq_true, pr_ne H (cpl k (σ (n1 + 1) 28) (H 28)) (show ¬ 5 = 28 by decide), xg_blk _ _ hn]
    by_cases hk : k = (H 5 0).toInt.toNat
    · rw [if_pos (by rw [Int32.le_iff_toInt_le, ek]; omega), hk]
    · rw [if_neg (by rw [Int32.le_iff_toInt_le, ek]; omega), ald_in (by rw [ek]; omega), ek]
      simp only [Int.toNat_natCast]
      rw [narz_ok (hz k (by omega)), ast_in (by rw [ek]; omega), ek]
      simp only [Int.toNat_natCast, nm_ap, bnd_ap, bns_ap, bnx_ap0, bnx_ap1, bnx_ap2, bnx_ap3, bnx_ap4, gz_0, gz_1, dvd_96, dvd_2, dvd_10000, rmd_96, rmd_8, xg_at, xg_0, mr_at, up_xg, up_mr, narz_0, narz_1, i10, i01, i11, i00, ↓reduceIte, e10, e01, e50, e51, e20, e60, e70, e30, e40, Classical.not_not, not_true_eq_false, not_false_eq_true, p2_pr, cpl_s, oN1]
      exact ih (k + 1) (by omega) (by omega)
theorem b01 {x : Int32} (h : 0 ≤ x.toInt ∧ x.toInt ≤ 1) : x = 0 ∨ x = 1 := by
  rcases (show x.toInt = 0 ∨ x.toInt = 1 by omega) with q | q
  · left; exact ti_ext (by rw [q]; rfl)
  · right; exact ti_ext (by rw [q]; rfl)
theorem pr_if (G : Gd) (c : Nat) (f : Nat → Int32) (c' : Nat) : pr G c f c' = if c' = c then f else G c' := rfl
theorem cp3 {σ : Sig} {n n1 : Nat} {G H : Gd} (hn : ¬ n1 = n) (r0 : ∀ c, σ (n1 + 1) c = G c) : ∃ H', f3_copyFrom n n1 (xg σ n H) = some (xg σ n H') ∧ (∀ c, ¬ c = 1 → H' c = H c) ∧ H' 1 0 = G 1 0 ∧ H' 1 1 = G 1 1 ∧ H' 1 2 = G 1 2 := by
  unfold f3_copyFrom f3_letPeacocksWalk
  simp only [nm_ap, bnd_ap, bns_ap, bnx_ap0, bnx_ap1, bnx_ap2, bnx_ap3, bnx_ap4, gz_0, gz_1, dvd_96, dvd_2, dvd_10000, rmd_96, rmd_8, xg_at, xg_0, mr_at, up_xg, up_mr, narz_0, narz_1, i10, i01, i11, i00, ↓reduceIte, e10, e01, e50, e51, e20, e60, e70, e30, e40, Classical.not_not, not_true_eq_false, not_false_eq_true, xg_blk _ _ hn, r0]
  refine ⟨_, rfl, fun c h => ?_, ?_, ?_, ?_⟩
  · simp (disch := omega) only [upd_at, upd_ne, p2_at, p2_ne]
  · simp (disch := omega) only [upd_at, upd_ne, p2_at, p2_ne]
  · simp (disch := omega) only [upd_at, upd_ne, p2_at, p2_ne]
  · simp (disch := omega) only [upd_at, upd_ne, p2_at, p2_ne]
theorem cp10 {σ : Sig} {n n1 : Nat} {G H : Gd} (hn : ¬ n1 = n) (r0 : ∀ c, σ (n1 + 1) c = G c) (hs : 0 ≤ (G 2 0).toInt ∧ (G 2 0).toInt ≤ ((5 : Nat) : Int) ∧ (G 2 0).toInt ≤ ((5 : Nat) : Int)) : ∃ H', f10_copyFrom n n1 (xg σ n H) = some (xg σ n H') ∧ (∀ c, ¬ c = 2 → ¬ c = 7 → H' c = H c) ∧ H' 2 0 = G 2 0 ∧ H' 2 1 = G 2 1 ∧ ∀ i : Nat, (i : Int) < (G 2 0).toInt → H' 7 i = G 7 i := by
  unfold f10_copyFrom
  simp only [nm_ap, bnd_ap, bns_ap, bnx_ap0, bnx_ap1, bnx_ap2, bnx_ap3, bnx_ap4, gz_0, gz_1, dvd_96, dvd_2, dvd_10000, rmd_96, rmd_8, xg_at, xg_0, mr_at, up_xg, up_mr, narz_0, narz_1, i10, i01, i11, i00, ↓reduceIte, e10, e01, e50, e51, e20, e60, e70, e30, e40, Classical.not_not, not_true_eq_false, not_false_eq_true, xg_blk _ _ hn, r0, p2_if, pr_if, Nat.reduceEqDiff, ↓reduceIte, upd, acp_in hs, ur_xg]
  refine ⟨_, rfl, fun c h1 h2 => ?_, ?_, ?_, fun i hi => ?_⟩
  · simp only [pr_if, p2_if, h1, h2, if_false]
  · rfl
  · rfl
  · simp only [pr_if, if_true]
    rw [cpy_lt _ _ (by omega)]
theorem cp0 {σ : Sig} {n n1 : Nat} {G H : Gd} (hn : ¬ n1 = n) (r0 : ∀ c, σ (n1 + 1) c = G c) (hs : 0 ≤ (G 3 0).toInt ∧ (G 3 0).toInt ≤ ((8 : Nat) : Int) ∧ (G 3 0).toInt ≤ ((8 : Nat) : Int)) : ∃ H', f0_copyFrom n n1 (xg σ n H) = some (xg σ n H') ∧ (∀ c, ¬ c = 3 → ¬ (8 ≤ c ∧ c ≤ 14) → H' c = H c) ∧ H' 3 0 = G 3 0 ∧ ∀ b : Nat, (b : Int) < (G 3 0).toInt → H' 8 b = G 8 b ∧ H' 9 b = G 9 b ∧ H' 10 b = G 10 b ∧ H' 11 b = G 11 b ∧ H' 12 b = G 12 b ∧ H' 13 b = G 13 b ∧ H' 14 b = G 14 b := by
  unfold f0_copyFrom
  simp only [nm_ap, bnd_ap, bns_ap, bnx_ap0, bnx_ap1, bnx_ap2, bnx_ap3, bnx_ap4, gz_0, gz_1, dvd_96, dvd_2, dvd_10000, rmd_96, rmd_8, xg_at, xg_0, mr_at, up_xg, up_mr, narz_0, narz_1, i10, i01, i11, i00, ↓reduceIte, e10, e01, e50, e51, e20, e60, e70, e30, e40, Classical.not_not, not_true_eq_false, not_false_eq_true, xg_blk _ _ hn, r0, p2_if, pr_if, Nat.reduceEqDiff, ↓reduceIte, upd, acp_in hs, ur_xg]
  refine ⟨_, rfl, fun c h1 h2 => ?_, ?_, fun i hi => ?_⟩
  · rw [pr_ne _ _ (by omega), pr_ne _ _ (by omega), pr_ne _ _ (by omega), pr_ne _ _ (by omega), pr_ne _ _ (by omega), pr_ne _ _ (by omega), pr_ne _ _ (by omega), p2_ne _ _ _ (by omega)]
  · rfl
  · simp only [pr_if, Nat.reduceEqDiff, ↓reduceIte]
    simp only [cpy_lt _ _ (show i < (G 3 0).toInt.toNat by omega), and_self]
theorem cp7 {σ : Sig} {n n1 : Nat} {G H : Gd} (hn : ¬ n1 = n) (r0 : ∀ c, σ (n1 + 1) c = G c) (hs : 0 ≤ (G 4 0).toInt ∧ (G 4 0).toInt ≤ ((30 : Nat) : Int) ∧ (G 4 0).toInt ≤ ((30 : Nat) : Int)) (hz : ∀ i : Nat, (i : Int) < (G 4 0).toInt → G 21 i = 0 ∨ G 21 i = 1) : ∃ H', f7_copyFrom n n1 (xg σ n H) = some (xg σ n H') ∧ (∀ c, ¬ c = 4 → ¬ (15 ≤ c ∧ c ≤ 26) → H' c = H c) ∧ H' 4 0 = G 4 0 ∧ ∀ p : Nat, (p : Int) < (G 4 0).toInt → H' 15 p = G 15 p ∧ H' 16 p = G 16 p ∧ H' 17 p = G 17 p ∧ H' 18 p = G 18 p ∧ H' 19 p = G 19 p ∧ H' 20 p = G 20 p ∧ H' 21 p = G 21 p ∧ H' 22 p = G 22 p ∧ H' 23 p = G 23 p ∧ H' 24 p = G 24 p ∧ H' 25 p = G 25 p ∧ H' 26 p = G 26 p := by
  have key : ∀ F : Gd, F 4 0 = G 4 0 → f7_copyFrom_b197 n n1 FU 0 (xg σ n F) = some (xg σ n (pr F 21 (cpl (G 4 0).toInt.toNat (G 21) (F 21)))) := by
    intro F hF
    have q := x_ret_l (σ := σ) (H := F) hn (by rw [hF]; omega) (fun i hi => by rw [r0]; exact hz i (by rw [← hF]; exact hi)) FU 0 (by omega) (by rw [hF]; unfold FU; omega)
    rw [cpl_0, pr_self, hF, r0] at q
    exact q
  unfold f7_copyFrom
  simp only [nm_ap, bnd_ap, bns_ap, bnx_ap0, bnx_ap1, bnx_ap2, bnx_ap3, bnx_ap4, gz_0, gz_1, dvd_96, dvd_2, dvd_10000, rmd_96, rmd_8, xg_at, xg_0, mr_at, up_xg, up_mr, narz_0, narz_1, i10, i01, i11, i00, ↓reduceIte, e10, e01, e50, e51, e20, e60, e70, e30, e40, Classical.not_not, not_true_eq_false, not_false_eq_true, xg_blk _ _ hn, r0, p2_if, pr_if, Nat.reduceEqDiff, ↓reduceIte, upd, acp_in hs, ur_xg]
  rw [key _ (by simp only [p2_if, pr_if, Nat.reduceEqDiff, ↓reduceIte, upd])]
  refine ⟨_, rfl, fun c h1 h2 => ?_, ?_, fun i hi => ?_⟩
  · rw [pr_ne _ _ (by omega), pr_ne _ _ (by omega), pr_ne _ _ (by omega), pr_ne _ _ (by omega), pr_ne _ _ (by omega), pr_ne _ _ (by omega), pr_ne _ _ (by omega), pr_ne _ _ (by omega), pr_ne _ _ (by omega), pr_ne _ _ (by omega), pr_ne _ _ (by omega), pr_ne _ _ (by omega), p2_ne _ _ _ (by omega)]
  · rfl
  · simp only [pr_if, Nat.reduceEqDiff, ↓reduceIte]
    simp only [cpy_lt _ _ (show i < (G 4 0).toInt.toNat by omega), cpl_lt _ _ (show i < (G 4 0).toInt.toNat by omega), and_self]
theorem cp2 {σ : Sig} {n n1 : Nat} {G H : Gd} (hn : ¬ n1 = n) (r0 : ∀ c, σ (n1 + 1) c = G c) (hs : 0 ≤ (G 5 0).toInt ∧ (G 5 0).toInt ≤ ((50 : Nat) : Int) ∧ (G 5 0).toInt ≤ ((50 : Nat) : Int)) (hz : ∀ i : Nat, (i : Int) < (G 5 0).toInt → G 28 i = 0 ∨ G 28 i = 1) : ∃ H', f2_copyFrom n n1 (xg σ n H) = some (xg σ n H') ∧ (∀ c, ¬ c = 5 → ¬ c = 27 → ¬ c = 28 → H' c = H c) ∧ H' 5 0 = G 5 0 ∧ ∀ k : Nat, (k : Int) < (G 5 0).toInt → H' 27 k = G 27 k ∧ H' 28 k = G 28 k := by
  have key : ∀ F : Gd, F 5 0 = G 5 0 → f2_copyFrom_b27 n n1 FU 0 (xg σ n F) = some (xg σ n (pr F 28 (cpl (G 5 0).toInt.toNat (G 28) (F 28)))) := by
    intro F hF
    have q := x_blk_l (σ := σ) (H := F) hn (by rw [hF]; omega) (fun i hi => by rw [r0]; exact hz i (by rw [← hF]; exact hi)) FU 0 (by omega) (by rw [hF]; unfold FU; omega)
    rw [cpl_0, pr_self, hF, r0] at q
    exact q
  unfold f2_copyFrom
  simp only [nm_ap, bnd_ap, bns_ap, bnx_ap0, bnx_ap1, bnx_ap2, bnx_ap3, bnx_ap4, gz_0, gz_1, dvd_96, dvd_2, dvd_10000, rmd_96, rmd_8, xg_at, xg_0, mr_at, up_xg, up_mr, narz_0, narz_1, i10, i01, i11, i00, ↓reduceIte, e10, e01, e50, e51, e20, e60, e70, e30, e40, Classical.not_not, not_true_eq_false, not_false_eq_true, xg_blk _ _ hn, r0, p2_if, pr_if, Nat.reduceEqDiff, ↓reduceIte, upd, acp_in hs, ur_xg]
  rw [key _ (by simp only [p2_if, pr_if, Nat.reduceEqDiff, ↓reduceIte, upd])]
  refine ⟨_, rfl, fun c h1 h2 h3 => ?_, ?_, fun i hi => ?_⟩
  · rw [pr_ne _ _ (by omega), pr_ne _ _ (by omega), p2_ne _ _ _ (by omega)]
  · rfl
  · simp only [pr_if, Nat.reduceEqDiff, ↓reduceIte]
    simp only [cpy_lt _ _ (show i < (G 5 0).toInt.toNat by omega), cpl_lt _ _ (show i < (G 5 0).toInt.toNat by omega), and_self]
theorem cp1 {σ : Sig} {n n1 : Nat} {G H : Gd} (hn : ¬ n1 = n) (r0 : ∀ c, σ (n1 + 1) c = G c) : ∃ H', f1_copyFrom n n1 (xg σ n H) = some (xg σ n H') ∧ (∀ c, ¬ c = 6 → H' c = H c) ∧ H' 6 0 = G 6 0 ∧ H' 6 1 = G 6 1 ∧ H' 6 2 = G 6 2 ∧ H' 6 3 = G 6 3 ∧ H' 6 4 = G 6 4 ∧ H' 6 5 = G 6 5 := by
  unfold f1_copyFrom
  simp only [nm_ap, bnd_ap, bns_ap, bnx_ap0, bnx_ap1, bnx_ap2, bnx_ap3, bnx_ap4, gz_0, gz_1, dvd_96, dvd_2, dvd_10000, rmd_96, rmd_8, xg_at, xg_0, mr_at, up_xg, up_mr, narz_0, narz_1, i10, i01, i11, i00, ↓reduceIte, e10, e01, e50, e51, e20, e60, e70, e30, e40, Classical.not_not, not_true_eq_false, not_false_eq_true, xg_blk _ _ hn, r0]
  refine ⟨_, rfl, fun c h => ?_, ?_, ?_, ?_, ?_, ?_, ?_⟩
  all_goals simp (disch := omega) only [upd_at, upd_ne, p2_at, p2_ne]
/-- a copy of the garden n1 in the garden n -/
theorem x_copy {σ : Sig} {n n1 : Nat} {G H : Gd} (hn : ¬ n1 = n) (hG : σ (n1 + 1) = G) (hi : Iv G) : ∃ H', f4_copyFrom n n1 (xg σ n H) = some (xg σ n H') ∧ AG G H' := by
  have h0 := hi.1
  have r0 : ∀ c, σ (n1 + 1) c = G c := fun c => by rw [hG]
  obtain ⟨H1, q1, a1, b1, c1, d1⟩ := cp3 (σ := σ) (H := H) hn r0
  obtain ⟨H2, q2, a2, b2, c2, d2⟩ := cp10 (σ := σ) (H := H1) hn r0 (by omega)
  obtain ⟨H3, q3, a3, b3, c3⟩ := cp0 (σ := σ) (H := H2) hn r0 (by omega)
  obtain ⟨H4, q4, a4, b4, c4⟩ := cp7 (σ := σ) (H := H3) hn r0 (by omega) (fun i hi' => b01 (by have := hi.p hi'; omega))
  obtain ⟨H5, q5, a5, b5, c5⟩ := cp2 (σ := σ) (H := H4) hn r0 (by omega) (fun i hi' => b01 (by have := hi.k hi'; omega))
  obtain ⟨H6, q6, a6, b6⟩ := cp1 (σ := σ) (H := H5) hn r0
  unfold f4_copyFrom
  rw [q1, bnd_ap, q2, bnd_ap, q3, bnd_ap, q4, bnd_ap, q5, bnd_ap, q6]
  simp only [nm_ap, bnd_ap, bns_ap, bnx_ap0, bnx_ap1, bnx_ap2, bnx_ap3, bnx_ap4, gz_0, gz_1, dvd_96, dvd_2, dvd_10000, rmd_96, rmd_8, xg_at, xg_0, mr_at, up_xg, up_mr, narz_0, narz_1, i10, i01, i11, i00, ↓reduceIte, e10, e01, e50, e51, e20, e60, e70, e30, e40, Classical.not_not, not_true_eq_false, not_false_eq_true, xg_blk _ _ hn, r0]
  refine ⟨_, rfl, ⟨?_, ?_, ?_, ?_, ?_, ?_, ?_, ?_, ?_, ?_⟩, fun i hi => ?_, fun b hb => ?_, fun p hp => ?_, fun k hk => ?_⟩
  · rw [p2_ne _ _ _ (by decide), a6 _ (by decide), a5 _ (by decide) (by decide) (by decide), a4 _ (by decide) (by decide), a3 _ (by decide) (by decide), b2]
  · rw [p2_ne _ _ _ (by decide), a6 _ (by decide), a5 _ (by decide) (by decide) (by decide), a4 _ (by decide) (by decide), b3]
  · rw [p2_ne _ _ _ (by decide), a6 _ (by decide), a5 _ (by decide) (by decide) (by decide), b4]
  · rw [p2_ne _ _ _ (by decide), a6 _ (by decide), b5]
  · rw [p2_ne _ _ _ (by decide), a6 _ (by decide), a5 _ (by decide) (by decide) (by decide), a4 _ (by decide) (by decide), a3 _ (by decide) (by decide), a2 _ (by decide) (by decide), b1]
  · rw [p2_ne _ _ _ (by decide), a6 _ (by decide), a5 _ (by decide) (by decide) (by decide), a4 _ (by decide) (by decide), a3 _ (by decide) (by decide), c2]
  · rw [p2_at, upd_at]
  · rw [p2_ne _ _ _ (by decide), a6 _ (by decide), a5 _ (by decide) (by decide) (by decide), a4 _ (by decide) (by decide), a3 _ (by decide) (by decide), a2 _ (by decide) (by decide), c1]
  · rw [p2_ne _ _ _ (by decide), a6 _ (by decide), a5 _ (by decide) (by decide) (by decide), a4 _ (by decide) (by decide), a3 _ (by decide) (by decide), a2 _ (by decide) (by decide), d1]
  · rw [p2_ne _ _ _ (by decide)]; exact b6
  · rw [p2_ne _ _ _ (by decide), a6 _ (by decide), a5 _ (by decide) (by decide) (by decide), a4 _ (by decide) (by decide), a3 _ (by decide) (by decide)]; exact d2 i hi
  · have w : ∀ c, 8 ≤ c → c ≤ 14 → p2 H6 0 6 (G 0 6) c = H3 c := fun c h1 h2 => by rw [p2_ne _ _ _ (by omega), a6 _ (by omega), a5 _ (by omega) (by omega) (by omega), a4 _ (by omega) (by omega)]
    simp (disch := omega) only [w]; exact c3 b hb
  · have w : ∀ c, 15 ≤ c → c ≤ 26 → p2 H6 0 6 (G 0 6) c = H4 c := fun c h1 h2 => by rw [p2_ne _ _ _ (by omega), a6 _ (by omega), a5 _ (by omega) (by omega) (by omega)]
    simp (disch := omega) only [w]; exact c4 p hp
  · have w : ∀ c, 27 ≤ c → c ≤ 28 → p2 H6 0 6 (G 0 6) c = H5 c := fun c h1 h2 => by rw [p2_ne _ _ _ (by omega), a6 _ (by omega)]
    simp (disch := omega) only [w]; exact c5 k hk
-- the reference's rows
def mw2 (τ : Sig) (c : Nat) (f : Rw) : Sig := ur τ 0 c f
theorem up_mw2 (τ : Sig) (c : Nat) (f : Rw) (j : Nat) (v : Int32) : up (mw2 τ c f) 0 c j v = mw2 τ c (upd f j v) := by
  funext g c'
  unfold up mw2 ur
  by_cases h : g = 0 ∧ c' = c
  · obtain ⟨rfl, rfl⟩ := h; simp
  · simp [h]
theorem mw2_at (τ : Sig) (c : Nat) (f : Rw) : mw2 τ c f 0 c = f := ur_self τ 0 c f
theorem mw2_ne (τ : Sig) (c : Nat) (f : Rw) {g c' : Nat} (h : ¬ (g = 0 ∧ c' = c)) : mw2 τ c f g c' = τ g c' := ur_ne τ f h
theorem mw2_self (τ : Sig) (c : Nat) : mw2 τ c (τ 0 c) = τ := by
  funext g c'
  unfold mw2 ur
  split
  · rename_i h; rw [h.1, h.2]
  · rfl
theorem m_copy_l {τ : Sig} {c0 c1 : Nat} (hc : ¬ c0 = c1) : ∀ (fu k : Nat), k ≤ 536 → 536 < fu + k → f12_copy_b2 c0 c1 fu (Int32.ofNat k) (mw2 τ c1 (cpl k (τ 0 c0) (τ 0 c1))) = some (mw2 τ c1 (cpl 536 (τ 0 c0) (τ 0 c1))) := by
  intro fu
  induction fu with
  | zero => intro k h1 h2; omega
  | succ fu ih =>
    intro k h1 h2
    have ek := oN k (by omega)
    have e5 : (536 : Int32).toInt = 536 := rfl
    rw [f12_copy_b2]
    by_cases hk : k = 536
    · rw [if_pos (by rw [Int32.le_iff_toInt_le, ek, e5]; omega), hk]
    · rw [if_neg (by rw [Int32.le_iff_toInt_le, ek, e5]; omega), ald_in (by rw [ek]; omega), ek, mw2_ne _ _ _ (by omega), ast_in (by rw [ek]; omega), ek]
      simp only [nm_ap, bnd_ap, bns_ap, bnx_ap0, bnx_ap1, bnx_ap2, bnx_ap3, bnx_ap4, gz_0, gz_1, dvd_96, dvd_2, dvd_10000, rmd_96, rmd_8, xg_at, xg_0, mr_at, up_xg, up_mr, narz_0, narz_1, i10, i01, i11, i00, ↓reduceIte, e10, e01, e50, e51, e20, e60, e70, e30, e40, Classical.not_not, not_true_eq_false, not_false_eq_true, Int.toNat_natCast, up_mw2, cpl_s, oN1]
      exact ih (k + 1) (by omega) (by omega)
theorem m_copy {τ : Sig} {c0 c1 : Nat} (hc : ¬ c0 = c1) : f12_copy c0 c1 τ = some (mw2 τ c1 (cpl 536 (τ 0 c0) (τ 0 c1))) := by
  have q := m_copy_l (τ := τ) hc FU 0 (by omega) (by unfold FU; omega)
  rw [cpl_0, mw2_self] at q
  exact q
theorem GP.cpl {G : Gd} {w f : Rw} (h : GP G w) : GP G (cpl 536 w f) := ⟨h.1.row h.2.bd (fun j hj => cpl_lt _ _ hj), h.2⟩
