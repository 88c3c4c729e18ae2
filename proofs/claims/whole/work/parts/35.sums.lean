/-! THE MATHEMATICS, 16: accounts, reports -/
/-- a sum as the machine adds it -/
def s32 (f : Nat → Int32) : Nat → Int32
  | 0 => 0
  | k + 1 => s32 f k + f k
theorem s32_congr {f g : Nat → Int32} {n : Nat} (h : ∀ k, k < n → f k = g k) : s32 f n = s32 g n := by
  induction n with
  | zero => rfl
  | succ n ih => simp only [s32]; rw [ih (fun k hk => h k (by omega)), h n (by omega)]
theorem s32_sm {f : Nat → Int32} {n : Nat} (h : ∀ k, k < n → 0 ≤ (f k).toInt) (hb : sm f n < 2147483648) : (s32 f n).toInt = sm f n := by
  induction n with
  | zero => rfl
  | succ n ih =>
    simp only [sm] at hb
    have h0 := sm_nonneg (fun k hk => h k (by omega) : ∀ k, k < n → 0 ≤ (f k).toInt)
    have h1 := h n (by omega)
    simp only [s32, sm]
    exact tv_add (ih (fun k hk => h k (by omega)) (by omega)) rfl (by omega)
-- the class's sums
theorem x_sumV_l {σ : Sig} {n : Nat} {G : Gd} (hp : 0 ≤ (G 4 0).toInt ∧ (G 4 0).toInt ≤ 30) : ∀ (fu k : Nat), k ≤ (G 4 0).toInt.toNat → (G 4 0).toInt.toNat < fu + k → f7_sumOfVisits_b4 n fu (s32 (G 23) k) (Int32.ofNat k) (xg σ n G) = some (s32 (G 23) (G 4 0).toInt.toNat) := by
  intro fu
  induction fu with
  | zero => intro k h1 h2; omega
  | succ fu ih =>
    intro k h1 h2
    have ek := oN k (by omega)
    rw [f7_sumOfVisits_b4]
    simp only [nm_ap, bnd_ap, bns_ap, bnx_ap0, bnx_ap1, bnx_ap2, bnx_ap3, bnx_ap4, gz_0, gz_1, dvd_96, dvd_2, dvd_10000, rmd_96, rmd_8, xg_at, xg_0, mr_at, up_xg, up_mr, narz_0, narz_1, i10, i01, i11, i00, ↓reduceIte, e10, e01, e50, e51, e20, e60, e70, e30, e40, Classical.not_not, not_true_eq_false, not_false_eq_true]
    by_cases hk : k = (G 4 0).toInt.toNat
    · rw [if_pos (by rw [Int32.le_iff_toInt_le, ek]; omega), hk]
    · rw [if_neg (by rw [Int32.le_iff_toInt_le, ek]; omega), ald_in (by rw [ek]; omega), ek]
      simp only [nm_ap, bnd_ap, bns_ap, bnx_ap0, bnx_ap1, bnx_ap2, bnx_ap3, bnx_ap4, gz_0, gz_1, dvd_96, dvd_2, dvd_10000, rmd_96, rmd_8, xg_at, xg_0, mr_at, up_xg, up_mr, narz_0, narz_1, i10, i01, i11, i00, ↓reduceIte, e10, e01, e50, e51, e20, e60, e70, e30, e40, Classical.not_not, not_true_eq_false, not_false_eq_true, Int.toNat_natCast, oN1]
      exact ih (k + 1) (by omega) (by omega)
theorem x_sumO_l {σ : Sig} {n : Nat} {G : Gd} (hp : 0 ≤ (G 4 0).toInt ∧ (G 4 0).toInt ≤ 30) : ∀ (fu k : Nat), k ≤ (G 4 0).toInt.toNat → (G 4 0).toInt.toNat < fu + k → f7_sumOfOwed_b4 n fu (s32 (G 26) k) (Int32.ofNat k) (xg σ n G) = some (s32 (G 26) (G 4 0).toInt.toNat) := by
  intro fu
  induction fu with
  | zero => intro k h1 h2; omega
  | succ fu ih =>
    intro k h1 h2
    have ek := oN k (by omega)
    rw [f7_sumOfOwed_b4]
    simp only [nm_ap, bnd_ap, bns_ap, bnx_ap0, bnx_ap1, bnx_ap2, bnx_ap3, bnx_ap4, gz_0, gz_1, dvd_96, dvd_2, dvd_10000, rmd_96, rmd_8, xg_at, xg_0, mr_at, up_xg, up_mr, narz_0, narz_1, i10, i01, i11, i00, ↓reduceIte, e10, e01, e50, e51, e20, e60, e70, e30, e40, Classical.not_not, not_true_eq_false, not_false_eq_true]
    by_cases hk : k = (G 4 0).toInt.toNat
    · rw [if_pos (by rw [Int32.le_iff_toInt_le, ek]; omega), hk]
    · rw [if_neg (by rw [Int32.le_iff_toInt_le, ek]; omega), ald_in (by rw [ek]; omega), ek]
      simp only [nm_ap, bnd_ap, bns_ap, bnx_ap0, bnx_ap1, bnx_ap2, bnx_ap3, bnx_ap4, gz_0, gz_1, dvd_96, dvd_2, dvd_10000, rmd_96, rmd_8, xg_at, xg_0, mr_at, up_xg, up_mr, narz_0, narz_1, i10, i01, i11, i00, ↓reduceIte, e10, e01, e50, e51, e20, e60, e70, e30, e40, Classical.not_not, not_true_eq_false, not_false_eq_true, Int.toNat_natCast, oN1]
      exact ih (k + 1) (by omega) (by omega)
theorem x_sumU_l {σ : Sig} {n : Nat} {G : Gd} (hp : 0 ≤ (G 4 0).toInt ∧ (G 4 0).toInt ≤ 30) : ∀ (fu k : Nat), k ≤ (G 4 0).toInt.toNat → (G 4 0).toInt.toNat < fu + k → f7_sumOfUsedDays_b4 n fu (s32 (fun p => bitc (G 22 p)) k) (Int32.ofNat k) (xg σ n G) = some (s32 (fun p => bitc (G 22 p)) (G 4 0).toInt.toNat) := by
  intro fu
  induction fu with
  | zero => intro k h1 h2; omega
  | succ fu ih =>
    intro k h1 h2
    have ek := oN k (by omega)
    rw [f7_sumOfUsedDays_b4]
    simp only [nm_ap, bnd_ap, bns_ap, bnx_ap0, bnx_ap1, bnx_ap2, bnx_ap3, bnx_ap4, gz_0, gz_1, dvd_96, dvd_2, dvd_10000, rmd_96, rmd_8, xg_at, xg_0, mr_at, up_xg, up_mr, narz_0, narz_1, i10, i01, i11, i00, ↓reduceIte, e10, e01, e50, e51, e20, e60, e70, e30, e40, Classical.not_not, not_true_eq_false, not_false_eq_true]
    by_cases hk : k = (G 4 0).toInt.toNat
    · rw [if_pos (by rw [Int32.le_iff_toInt_le, ek]; omega), hk]
    · rw [if_neg (by rw [Int32.le_iff_toInt_le, ek]; omega), x_used (by rw [ek]; omega), ek]
      simp only [nm_ap, bnd_ap, bns_ap, bnx_ap0, bnx_ap1, bnx_ap2, bnx_ap3, bnx_ap4, gz_0, gz_1, dvd_96, dvd_2, dvd_10000, rmd_96, rmd_8, xg_at, xg_0, mr_at, up_xg, up_mr, narz_0, narz_1, i10, i01, i11, i00, ↓reduceIte, e10, e01, e50, e51, e20, e60, e70, e30, e40, Classical.not_not, not_true_eq_false, not_false_eq_true, Int.toNat_natCast, oN1]
      exact ih (k + 1) (by omega) (by omega)
theorem x_sumB_l {σ : Sig} {n : Nat} {G : Gd} (hp : 0 ≤ (G 3 0).toInt ∧ (G 3 0).toInt ≤ 8) : ∀ (fu k : Nat), k ≤ (G 3 0).toInt.toNat → (G 3 0).toInt.toNat < fu + k → f0_sumOfVisits_b4 n fu (s32 (G 13) k) (Int32.ofNat k) (xg σ n G) = some (s32 (G 13) (G 3 0).toInt.toNat) := by
  intro fu
  induction fu with
  | zero => intro k h1 h2; omega
  | succ fu ih =>
    intro k h1 h2
    have ek := oN k (by omega)
    rw [f0_sumOfVisits_b4]
    simp only [nm_ap, bnd_ap, bns_ap, bnx_ap0, bnx_ap1, bnx_ap2, bnx_ap3, bnx_ap4, gz_0, gz_1, dvd_96, dvd_2, dvd_10000, rmd_96, rmd_8, xg_at, xg_0, mr_at, up_xg, up_mr, narz_0, narz_1, i10, i01, i11, i00, ↓reduceIte, e10, e01, e50, e51, e20, e60, e70, e30, e40, Classical.not_not, not_true_eq_false, not_false_eq_true]
    by_cases hk : k = (G 3 0).toInt.toNat
    · rw [if_pos (by rw [Int32.le_iff_toInt_le, ek]; omega), hk]
    · rw [if_neg (by rw [Int32.le_iff_toInt_le, ek]; omega), ald_in (by rw [ek]; omega), ek]
      simp only [nm_ap, bnd_ap, bns_ap, bnx_ap0, bnx_ap1, bnx_ap2, bnx_ap3, bnx_ap4, gz_0, gz_1, dvd_96, dvd_2, dvd_10000, rmd_96, rmd_8, xg_at, xg_0, mr_at, up_xg, up_mr, narz_0, narz_1, i10, i01, i11, i00, ↓reduceIte, e10, e01, e50, e51, e20, e60, e70, e30, e40, Classical.not_not, not_true_eq_false, not_false_eq_true, Int.toNat_natCast, oN1]
      exact ih (k + 1) (by omega) (by omega)
theorem x_sums {σ : Sig} {n : Nat} {G : Gd} (hi : Iv G) : f7_sumOfVisits n (xg σ n G) = some (s32 (G 23) (G 4 0).toInt.toNat) ∧ f7_sumOfOwed n (xg σ n G) = some (s32 (G 26) (G 4 0).toInt.toNat) ∧ f7_sumOfUsedDays n (xg σ n G) = some (s32 (fun p => bitc (G 22 p)) (G 4 0).toInt.toNat) ∧ f0_sumOfVisits n (xg σ n G) = some (s32 (G 13) (G 3 0).toInt.toNat) := by
  have h0 := hi.1
  exact ⟨x_sumV_l (by omega) FU 0 (by omega) (by unfold FU; omega), x_sumO_l (by omega) FU 0 (by omega) (by unfold FU; omega), x_sumU_l (by omega) FU 0 (by omega) (by unfold FU; omega), x_sumB_l (by omega) FU 0 (by omega) (by unfold FU; omega)⟩
theorem m_allV_l {G : Gd} {w : Rw} (h : RG G w) (τ : Sig) (hp : 0 ≤ (G 3 0).toInt ∧ (G 3 0).toInt ≤ 8) : ∀ (fu k : Nat), k ≤ (G 3 0).toInt.toNat → (G 3 0).toInt.toNat < fu + k → f12_allVisits_b4 fu (s32 (G 13) k) (Int32.ofNat k) (mr τ w) = some (s32 (G 13) (G 3 0).toInt.toNat) := by
  intro fu
  induction fu with
  | zero => intro k h1 h2; omega
  | succ fu ih =>
    intro k h1 h2
    have ek := oN k (by omega)
    rw [f12_allVisits_b4]
    simp only [nm_ap, bnd_ap, bns_ap, bnx_ap0, bnx_ap1, bnx_ap2, bnx_ap3, bnx_ap4, gz_0, gz_1, dvd_96, dvd_2, dvd_10000, rmd_96, rmd_8, xg_at, xg_0, mr_at, up_xg, up_mr, narz_0, narz_1, i10, i01, i11, i00, ↓reduceIte, e10, e01, e50, e51, e20, e60, e70, e30, e40, Classical.not_not, not_true_eq_false, not_false_eq_true, al_0, al_1, al_2, al_3, al_4, al_5, al_6, al_7, al_8, al_9, al_10, al_11, al_12, al_13, al_14, h.s1]
    by_cases hk : k = (G 3 0).toInt.toNat
    · rw [if_pos (by rw [Int32.le_iff_toInt_le, ek]; omega), hk]
    · rw [if_neg (by rw [Int32.le_iff_toInt_le, ek]; omega), mb_6 (by rw [ek]; omega), ek]
      simp only [nm_ap, bnd_ap, bns_ap, bnx_ap0, bnx_ap1, bnx_ap2, bnx_ap3, bnx_ap4, gz_0, gz_1, dvd_96, dvd_2, dvd_10000, rmd_96, rmd_8, xg_at, xg_0, mr_at, up_xg, up_mr, narz_0, narz_1, i10, i01, i11, i00, ↓reduceIte, e10, e01, e50, e51, e20, e60, e70, e30, e40, Classical.not_not, not_true_eq_false, not_false_eq_true, Int.toNat_natCast, oN1, h.b6 (b := k) (by omega)]
      exact ih (k + 1) (by omega) (by omega)
theorem m_allV {G : Gd} {w : Rw} (hg : GP G w) (τ : Sig) : f12_allVisits (mr τ w) = some (s32 (G 13) (G 3 0).toInt.toNat) := by
  have h0 := hg.2.1
  exact m_allV_l hg.1 τ (by omega) FU 0 (by omega) (by unfold FU; omega)
/-- the visits to all beds are those with all passes -/
theorem sums_eq {G : Gd} (hi : Iv G) : s32 (G 23) (G 4 0).toInt.toNat = s32 (G 13) (G 3 0).toInt.toNat := by
  have h0 := hi.1
  have hv := vis_all hi
  have hs := hi.2.2.2.2.2
  apply ti_ext
  rw [s32_sm (fun k hk => by have := hi.p (p := k) (by omega); omega) (by omega), s32_sm (fun k hk => by have := hi.b (b := k) (by omega); omega) (by omega), hs]
/-- days are used just where there are visits -/
theorem used_vis {G : Gd} (hi : Iv G) : (s32 (fun p => bitc (G 22 p)) (G 4 0).toInt.toNat = 0 ↔ s32 (G 23) (G 4 0).toInt.toNat = 0) ∧ 0 ≤ (s32 (fun p => bitc (G 22 p)) (G 4 0).toInt.toNat).toInt ∧ (s32 (fun p => bitc (G 22 p)) (G 4 0).toInt.toNat).toInt ≤ 420 := by
  have h0 := hi.1
  have hv := vis_all hi
  have b : ∀ k, k < (G 4 0).toInt.toNat → 0 ≤ (bitc (G 22 k)).toInt ∧ (bitc (G 22 k)).toInt ≤ 14 ∧ ((bitc (G 22 k)).toInt = 0 ↔ (G 22 k).toInt = 0) := fun k hk => bitc_in (by have := hi.p (p := k) (by omega); omega)
  have n1 : ∀ k, k < (G 4 0).toInt.toNat → 0 ≤ ((fun p => bitc (G 22 p)) k).toInt := fun k hk => (b k hk).1
  have n2 : ∀ k, k < (G 4 0).toInt.toNat → 0 ≤ (G 23 k).toInt := fun k hk => by have := hi.p (p := k) (by omega); omega
  have l1 := sm_le (f := fun p => bitc (G 22 p)) (n := (G 4 0).toInt.toNat) (B := 14) (fun k hk => (b k hk).2.1)
  have l0 := sm_nonneg n1
  have e1 := s32_sm n1 (by omega)
  have e2 := s32_sm n2 (by omega)
  have z : ∀ x : Int32, x = 0 ↔ x.toInt = 0 := fun x => ⟨fun e => by rw [e]; rfl, fun e => ti_ext (by rw [e]; rfl)⟩
  have zz : ∀ (f : Nat → Int32) (n : Nat), (∀ k, k < n → (f k).toInt = 0) → sm f n = 0 := by
    intro f n hf
    induction n with
    | zero => rfl
    | succ n ih => simp only [sm]; rw [ih (fun k hk => hf k (by omega)), hf n (by omega)]; rfl
  refine ⟨?_, by omega, by omega⟩
  rw [z, z, e1, e2]
  constructor
  · intro hz
    have q := sm_zero n1 hz
    exact zz _ _ (fun k hk => by
      have h1 := hi.p (p := k) (by omega)
      have h2 := (b k hk).2.2
      have h3 : (bitc (G 22 k)).toInt = 0 := q k hk
      omega)
  · intro hz
    have q := sm_zero n2 hz
    exact zz _ _ (fun k hk => by
      have h1 := hi.p (p := k) (by omega)
      have h2 := (b k hk).2.2
      have h3 := q k hk
      show (bitc (G 22 k)).toInt = 0
      omega)
-- a quotient that is a number
theorem enc_in (s : Bool) (A B : Nat) (e : Int) : Jvm.FP.Core.encode Jvm.FP.Core.b64 (Jvm.FP.Core.roundRatio Jvm.FP.Core.b64 s A B e) % 2 ^ 63 ≤ 2047 * 2 ^ 52 := by
  have ht : Jvm.FP.Core.Fmt.tails Jvm.FP.Core.b64 = 2 ^ 52 := rfl
  have he : Jvm.FP.Core.Fmt.exps Jvm.FP.Core.b64 = 2048 := rfl
  have hq : Jvm.FP.Core.Fmt.qmin Jvm.FP.Core.b64 = -1074 := by decide
  have hm : Jvm.FP.Core.Fmt.qmax Jvm.FP.Core.b64 = 971 := by decide
  have hp : (2 : Nat) ^ Jvm.FP.Core.b64.p = 2 ^ 53 := rfl
  have fin : ∀ (c : Nat) (q : Int), c < 2 ^ 53 → q ≤ 971 → Jvm.FP.Core.encode Jvm.FP.Core.b64 (.fin s c q) % 2 ^ 63 ≤ 2047 * 2 ^ 52 := by
    intro c q hc hq9
    unfold Jvm.FP.Core.encode Jvm.FP.Core.assemble
    dsimp only
    rw [ht, he, hq]
    split <;> cases s <;> simp only [Bool.toNat_true, Bool.toNat_false] <;> omega
  have inf : Jvm.FP.Core.encode Jvm.FP.Core.b64 (.inf s) % 2 ^ 63 ≤ 2047 * 2 ^ 52 := by
    unfold Jvm.FP.Core.encode Jvm.FP.Core.assemble
    dsimp only
    rw [ht, he]
    cases s <;> simp only [Bool.toNat_true, Bool.toNat_false] <;> omega
  unfold Jvm.FP.Core.roundRatio
  split
  · exact fin 0 _ (by omega) (by rw [hq]; omega)
  · unfold Jvm.FP.Core.roundAt Jvm.FP.Core.settle Jvm.FP.Core.bound
    rw [hm, hp, ht]
    generalize Jvm.FP.Core.nearest _ _ = c
    generalize Jvm.FP.Core.quantum _ _ _ _ = q
    split
    · split
      · exact fin c q (by omega) (by omega)
      · exact inf
    · split
      · exact fin (2 ^ 52) (q + 1) (by omega) (by omega)
      · exact inf
theorem dec_ok {n : Nat} (h : n % 2 ^ 63 ≤ 2047 * 2 ^ 52) : ¬ Jvm.FP.Core.decode Jvm.FP.Core.b64 n = .nan := by
  have ht : Jvm.FP.Core.Fmt.tails Jvm.FP.Core.b64 = 2 ^ 52 := rfl
  have he : Jvm.FP.Core.Fmt.exps Jvm.FP.Core.b64 = 2048 := rfl
  unfold Jvm.FP.Core.decode Jvm.FP.Core.fieldE Jvm.FP.Core.fieldT
  rw [ht, he]
  split
  · split
    · intro e; cases e
    · omega
  · split
    · intro e; cases e
    · intro e; cases e
theorem i2d_in (a : Int32) : (FP.i2d a).toNat % 2 ^ 63 ≤ 2047 * 2 ^ 52 := by
  have h := enc_in (decide (a.toInt < 0)) a.toInt.natAbs 1 0
  have e : (FP.i2d a).toNat = (Jvm.FP.Core.encode Jvm.FP.Core.b64 (Jvm.FP.Core.roundRatio Jvm.FP.Core.b64 (decide (a.toInt < 0)) a.toInt.natAbs 1 0)) % 2 ^ 64 := UInt64.toNat_ofNat'
  rw [e]
  omega
def fnz (d : Jvm.FP.Core.Datum) : Bool := match d with
  | .fin _ c _ => decide (¬ c = 0)
  | _ => false
theorem fnz_dec : ∀ b : Fin 421, b.1 = 0 ∨ fnz (Jvm.FP.Core.decode Jvm.FP.Core.b64 (FP.i2d (Int32.ofNat b.1)).toNat) = true := by decide +kernel
theorem quo_in (x y : Jvm.FP.Core.Datum) (hx : ¬ x = .nan) (hy : fnz y = true) : Jvm.FP.Core.encode Jvm.FP.Core.b64 (Jvm.FP.Core.quotient Jvm.FP.Core.b64 x y) % 2 ^ 63 ≤ 2047 * 2 ^ 52 := by
  match y, hy with
  | .fin t d r, hy =>
    have hd : ¬ d = 0 := of_decide_eq_true hy
    match x, hx with
    | .nan, hx => exact absurd rfl hx
    | .inf s, _ =>
      have ht : Jvm.FP.Core.Fmt.tails Jvm.FP.Core.b64 = 2 ^ 52 := rfl
      have he : Jvm.FP.Core.Fmt.exps Jvm.FP.Core.b64 = 2048 := rfl
      unfold Jvm.FP.Core.quotient Jvm.FP.Core.encode Jvm.FP.Core.assemble
      dsimp only
      rw [ht, he]
      cases (s != t) <;> simp only [Bool.toNat_true, Bool.toNat_false] <;> omega
    | .fin s c q, _ =>
      unfold Jvm.FP.Core.quotient
      dsimp only
      rw [if_neg hd]
      exact enc_in _ _ _ _
theorem ddv_ok {β : Type} (a b : Int32) (hb : 1 ≤ b.toInt ∧ b.toInt ≤ 420) (f : UInt64 → Option β) : ddv (FP.i2d a) (FP.i2d b) f = f (FP.ddiv (FP.i2d a) (FP.i2d b)) := by
  have e : Int32.ofNat b.toInt.toNat = b := ti_ext (by rw [oN _ (by omega)]; omega)
  have h1 := fnz_dec ⟨b.toInt.toNat, by omega⟩
  simp only [e] at h1
  have h2 : fnz (Jvm.FP.Core.decode Jvm.FP.Core.b64 (FP.i2d b).toNat) = true := by
    rcases h1 with h | h
    · omega
    · exact h
  have h3 := quo_in _ _ (dec_ok (i2d_in a)) h2
  have e4 : (FP.ddiv (FP.i2d a) (FP.i2d b)).toNat = (Jvm.FP.Core.encode Jvm.FP.Core.b64 (Jvm.FP.Core.quotient Jvm.FP.Core.b64 (Jvm.FP.Core.decode Jvm.FP.Core.b64 (FP.i2d a).toNat) (Jvm.FP.Core.decode Jvm.FP.Core.b64 (FP.i2d b).toNat))) % 2 ^ 64 := UInt64.toNat_ofNat'
  unfold ddv
  rw [if_pos]
  rw [UInt64.le_iff_toNat_le, UInt64.toNat_and, show (0x7fffffffffffffff : UInt64).toNat = 2 ^ 63 - 1 from rfl, show (0x7ff0000000000000 : UInt64).toNat = 2047 * 2 ^ 52 from rfl, Nat.and_two_pow_sub_one_eq_mod, e4]
  omega
theorem fdv_dec : ∀ a : Fin 51, ∀ b : Fin 51, b.1 = 0 ∨ FP.fdiv (FP.i2f (Int32.ofNat a.1)) (FP.i2f (Int32.ofNat b.1)) &&& 0x7fffffff ≤ 0x7f800000 := by decide +kernel
theorem fdv_ok {β : Type} (a b : Int32) (ha : 0 ≤ a.toInt ∧ a.toInt ≤ 50) (hb : 1 ≤ b.toInt ∧ b.toInt ≤ 50) (f : UInt32 → Option β) : fdv (FP.i2f a) (FP.i2f b) f = f (FP.fdiv (FP.i2f a) (FP.i2f b)) := by
  have e : Int32.ofNat b.toInt.toNat = b := ti_ext (by rw [oN _ (by omega)]; omega)
  have e1 : Int32.ofNat a.toInt.toNat = a := ti_ext (by rw [oN _ (by omega)]; omega)
  have h1 := fdv_dec ⟨a.toInt.toNat, by omega⟩ ⟨b.toInt.toNat, by omega⟩
  simp only [e, e1] at h1
  unfold fdv
  rw [if_pos]
  rcases h1 with h | h
  · omega
  · exact h
-- visits a day
def OKd (σ : Sig) (X : Option UInt64) (M : Option (UInt64 × Sig)) : Prop := ∃ r τ', X = some r ∧ M = some (r, τ') ∧ Rl σ τ'
def OKf (σ : Sig) (X : Option UInt32) (M : Option (UInt32 × Sig)) : Prop := ∃ r τ', X = some r ∧ M = some (r, τ') ∧ Rl σ τ'
theorem m_vpd_l {G : Gd} {w : Rw} (hg : GP G w) (τ : Sig) : ∀ (fu k : Nat), k ≤ (G 4 0).toInt.toNat → (G 4 0).toInt.toNat < fu + k → f12_visitsPerDay_b9 fu (s32 (fun p => bitc (G 22 p)) k) (Int32.ofNat k) (mr τ w) = if s32 (G 23) (G 4 0).toInt.toNat = 0 then some (FP.dconst0, mr τ w) else some (FP.ddiv (FP.i2d (s32 (G 23) (G 4 0).toInt.toNat)) (FP.i2d (s32 (fun p => bitc (G 22 p)) (G 4 0).toInt.toNat)), mr τ w) := by
  have h0 := hg.2.1
  intro fu
  induction fu with
  | zero => intro k h1 h2; omega
  | succ fu ih =>
    intro k h1 h2
    have ek := oN k (by omega)
    rw [f12_visitsPerDay_b9]
    simp only [nm_ap, bnd_ap, bns_ap, bnx_ap0, bnx_ap1, bnx_ap2, bnx_ap3, bnx_ap4, gz_0, gz_1, dvd_96, dvd_2, dvd_10000, rmd_96, rmd_8, xg_at, xg_0, mr_at, up_xg, up_mr, narz_0, narz_1, i10, i01, i11, i00, ↓reduceIte, e10, e01, e50, e51, e20, e60, e70, e30, e40, Classical.not_not, not_true_eq_false, not_false_eq_true, al_0, al_1, al_2, al_3, al_4, al_5, al_6, al_7, al_8, al_9, al_10, al_11, al_12, al_13, al_14, hg.1.s2, m_allV hg, ← sums_eq hg.2]
    by_cases hk : k = (G 4 0).toInt.toNat
    · rw [if_pos (by rw [Int32.le_iff_toInt_le, ek]; omega), ← hk]
      by_cases hz : s32 (G 23) k = 0
      · rw [if_pos hz, if_pos hz]
      · rw [if_neg hz, if_neg hz]
        have hu := used_vis hg.2
        rw [← hk] at hu
        have hne : ¬ s32 (fun p => bitc (G 22 p)) k = 0 := fun e => hz (hu.1.mp e)
        have hne2 : ¬ (s32 (fun p => bitc (G 22 p)) k).toInt = 0 := fun e => hne (ti_ext (by rw [e]; rfl))
        rw [ddv_ok _ _ (by omega)]
    · rw [if_neg (by rw [Int32.le_iff_toInt_le, ek]; omega), mo_7 (by rw [ek]; omega), ek]
      have h3 := hg.2.p (p := k) (by omega)
      simp only [nm_ap, bnd_ap, bns_ap, bnx_ap0, bnx_ap1, bnx_ap2, bnx_ap3, bnx_ap4, gz_0, gz_1, dvd_96, dvd_2, dvd_10000, rmd_96, rmd_8, xg_at, xg_0, mr_at, up_xg, up_mr, narz_0, narz_1, i10, i01, i11, i00, ↓reduceIte, e10, e01, e50, e51, e20, e60, e70, e30, e40, Classical.not_not, not_true_eq_false, not_false_eq_true, Int.toNat_natCast, hg.1.p7 (p := k) (by omega), m_ones (show 0 ≤ (G 22 k).toInt ∧ (G 22 k).toInt < 16384 by omega), oN1]
      exact ih (k + 1) (by omega) (by omega)
theorem ok_visitsPerDay {σ τ : Sig} {G : Gd} {w : Rw} (h : Rl (xg σ 8 G) (mr τ w)) : OKd (xg σ 8 G) (f11_visitsPerDay (xg σ 8 G)) (f12_visitsPerDay (mr τ w)) := by
  have hg := h.gp
  have h0 := hg.2.1
  have xs := x_sums (σ := σ) (n := 8) hg.2
  have hu := used_vis hg.2
  have q := m_vpd_l hg (up τ 0 0 0 0) FU 0 (by omega) (by unfold FU; omega)
  have q' : f12_visitsPerDay_b9 FU 0 0 (mr (up τ 0 0 0 0) w) = _ := q
  unfold f11_visitsPerDay f12_visitsPerDay
  simp only [nm_ap, bnd_ap, bns_ap, bnx_ap0, bnx_ap1, bnx_ap2, bnx_ap3, bnx_ap4, gz_0, gz_1, dvd_96, dvd_2, dvd_10000, rmd_96, rmd_8, xg_at, xg_0, mr_at, up_xg, up_mr, narz_0, narz_1, i10, i01, i11, i00, ↓reduceIte, e10, e01, e50, e51, e20, e60, e70, e30, e40, Classical.not_not, not_true_eq_false, not_false_eq_true, xs.1, xs.2.2.1, up_mr0, q']
  by_cases hz : s32 (fun p => bitc (G 22 p)) (G 4 0).toInt.toNat = 0
  · have hz2 := hu.1.mp hz
    rw [if_pos hz, if_pos hz2]
    exact ⟨_, _, rfl, rfl, h.thm 0⟩
  · have hz2 : ¬ s32 (G 23) (G 4 0).toInt.toNat = 0 := fun e => hz (hu.1.mpr e)
    have hne2 : ¬ (s32 (fun p => bitc (G 22 p)) (G 4 0).toInt.toNat).toInt = 0 := fun e => hz (ti_ext (by rw [e]; rfl))
    rw [if_neg hz, if_neg hz2, ddv_ok _ _ (by omega)]
    exact ⟨_, _, rfl, rfl, h.thm 0⟩
-- blocked cards
def kb (G : Gd) : Nat → Int32
  | 0 => 0
  | k + 1 => if G 28 k = 0 then kb G k else kb G k + 1
theorem kb_in (G : Gd) {k : Nat} (h : k ≤ 50) : 0 ≤ (kb G k).toInt ∧ (kb G k).toInt ≤ k := by
  induction k with
  | zero => simp only [kb]; decide
  | succ k ih =>
    have q := ih (by omega)
    rw [kb]
    split
    · omega
    · rw [tv_add rfl (show (1 : Int32).toInt = 1 from rfl) (by omega)]; omega
theorem x_blk2_l {σ : Sig} {n : Nat} {G : Gd} (hp : 0 ≤ (G 5 0).toInt ∧ (G 5 0).toInt ≤ 50) : ∀ (fu k : Nat), k ≤ (G 5 0).toInt.toNat → (G 5 0).toInt.toNat < fu + k → f2_countBlocked_b4 n fu (kb G k) (Int32.ofNat k) (xg σ n G) = some (kb G (G 5 0).toInt.toNat) := by
  intro fu
  induction fu with
  | zero => intro k h1 h2; omega
  | succ fu ih =>
    intro k h1 h2
    have ek := oN k (by omega)
    rw [f2_countBlocked_b4]
    simp only [nm_ap, bnd_ap, bns_ap, bnx_ap0, bnx_ap1, bnx_ap2, bnx_ap3, bnx_ap4, gz_0, gz_1, dvd_96, dvd_2, dvd_10000, rmd_96, rmd_8, xg_at, xg_0, mr_at, up_xg, up_mr, narz_0, narz_1, i10, i01, i11, i00, ↓reduceIte, e10, e01, e50, e51, e20, e60, e70, e30, e40, Classical.not_not, not_true_eq_false, not_false_eq_true]
    by_cases hk : k = (G 5 0).toInt.toNat
    · rw [if_pos (by rw [Int32.le_iff_toInt_le, ek]; omega), hk]
    · rw [if_neg (by rw [Int32.le_iff_toInt_le, ek]; omega), ald_in (by rw [ek]; omega), ek]
      have q := ih (k + 1) (by omega) (by omega)
      unfold f2_countBlocked_b24
      simp only [nm_ap, bnd_ap, bns_ap, bnx_ap0, bnx_ap1, bnx_ap2, bnx_ap3, bnx_ap4, gz_0, gz_1, dvd_96, dvd_2, dvd_10000, rmd_96, rmd_8, xg_at, xg_0, mr_at, up_xg, up_mr, narz_0, narz_1, i10, i01, i11, i00, ↓reduceIte, e10, e01, e50, e51, e20, e60, e70, e30, e40, Classical.not_not, not_true_eq_false, not_false_eq_true, Int.toNat_natCast, oN1]
      rw [kb] at q
      by_cases hb : G 28 k = 0
      · rw [if_pos hb] at q ⊢; exact q
      · rw [if_neg hb] at q ⊢; exact q
theorem m_blk2_l {G : Gd} {w : Rw} (hg : GP G w) (τ : Sig) : ∀ (fu k : Nat), k ≤ (G 5 0).toInt.toNat → (G 5 0).toInt.toNat < fu + k → f12_blockedShare_b9 fu (kb G k) (Int32.ofNat k) (mr τ w) = if G 5 0 = 0 then some (FP.fconst0, mr τ w) else some (FP.fdiv (FP.i2f (kb G (G 5 0).toInt.toNat)) (FP.i2f (G 5 0)), mr τ w) := by
  have h0 := hg.2.1
  intro fu
  induction fu with
  | zero => intro k h1 h2; omega
  | succ fu ih =>
    intro k h1 h2
    have ek := oN k (by omega)
    rw [f12_blockedShare_b9]
    simp only [nm_ap, bnd_ap, bns_ap, bnx_ap0, bnx_ap1, bnx_ap2, bnx_ap3, bnx_ap4, gz_0, gz_1, dvd_96, dvd_2, dvd_10000, rmd_96, rmd_8, xg_at, xg_0, mr_at, up_xg, up_mr, narz_0, narz_1, i10, i01, i11, i00, ↓reduceIte, e10, e01, e50, e51, e20, e60, e70, e30, e40, Classical.not_not, not_true_eq_false, not_false_eq_true, al_0, al_1, al_2, al_3, al_4, al_5, al_6, al_7, al_8, al_9, al_10, al_11, al_12, al_13, al_14, hg.1.s3]
    by_cases hk : k = (G 5 0).toInt.toNat
    · rw [if_pos (by rw [Int32.le_iff_toInt_le, ek]; omega)]
      by_cases hz : G 5 0 = 0
      · rw [if_pos hz, if_pos hz]
      · rw [if_neg hz, if_neg hz]
        have hne2 : ¬ (G 5 0).toInt = 0 := fun e => hz (ti_ext (by rw [e]; rfl))
        have hb := kb_in G (k := k) (by omega)
        rw [fdv_ok _ _ (by omega) (by omega), hk]
    · rw [if_neg (by rw [Int32.le_iff_toInt_le, ek]; omega), m_blocked (by rw [ek]; omega), ek]
      have q := ih (k + 1) (by omega) (by omega)
      have h3 := hg.2.k (k := k) (by omega)
      unfold f12_blockedShare_b33
      simp only [nm_ap, bnd_ap, bns_ap, bnx_ap0, bnx_ap1, bnx_ap2, bnx_ap3, bnx_ap4, gz_0, gz_1, dvd_96, dvd_2, dvd_10000, rmd_96, rmd_8, xg_at, xg_0, mr_at, up_xg, up_mr, narz_0, narz_1, i10, i01, i11, i00, ↓reduceIte, e10, e01, e50, e51, e20, e60, e70, e30, e40, Classical.not_not, not_true_eq_false, not_false_eq_true, Int.toNat_natCast, hg.1.k1 (k := k) (by omega), oN1, Int32.add_zero]
      rw [kb] at q
      rcases b01 (x := G 28 k) (by omega) with hb | hb
      · rw [hb] at q ⊢; exact q
      · rw [hb] at q ⊢; exact q
theorem ok_blockedShare {σ τ : Sig} {G : Gd} {w : Rw} (h : Rl (xg σ 8 G) (mr τ w)) : OKf (xg σ 8 G) (f11_blockedShare (xg σ 8 G)) (f12_blockedShare (mr τ w)) := by
  have hg := h.gp
  have h0 := hg.2.1
  have q := m_blk2_l hg (up τ 0 0 0 0) FU 0 (by omega) (by unfold FU; omega)
  have q' : f12_blockedShare_b9 FU 0 0 (mr (up τ 0 0 0 0) w) = _ := q
  have x : f2_countBlocked 8 (xg σ 8 G) = some (kb G (G 5 0).toInt.toNat) := x_blk2_l (by omega) FU 0 (by omega) (by unfold FU; omega)
  have hb := kb_in G (k := (G 5 0).toInt.toNat) (by omega)
  unfold f11_blockedShare f12_blockedShare
  simp only [nm_ap, bnd_ap, bns_ap, bnx_ap0, bnx_ap1, bnx_ap2, bnx_ap3, bnx_ap4, gz_0, gz_1, dvd_96, dvd_2, dvd_10000, rmd_96, rmd_8, xg_at, xg_0, mr_at, up_xg, up_mr, narz_0, narz_1, i10, i01, i11, i00, ↓reduceIte, e10, e01, e50, e51, e20, e60, e70, e30, e40, Classical.not_not, not_true_eq_false, not_false_eq_true, x, up_mr0, q']
  by_cases hz : G 5 0 = 0
  · rw [if_pos hz, if_pos hz]
    exact ⟨_, _, rfl, rfl, h.thm 0⟩
  · have hne2 : ¬ (G 5 0).toInt = 0 := fun e => hz (ti_ext (by rw [e]; rfl))
    rw [if_neg hz, if_neg hz, fdv_ok _ _ (by omega) (by omega)]
    exact ⟨_, _, rfl, rfl, h.thm 0⟩
