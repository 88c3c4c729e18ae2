/-! THE MATHEMATICS, 9: ticks pass -/
def fr (G : Gd) (x : Int32) (f14 f12 : Nat → Int32) : Gd := pr (pr (p2 G 1 0 x) 14 f14) 12 f12
theorem fr_at14 (G : Gd) (x : Int32) (f g : Nat → Int32) : fr G x f g 14 = f := rfl
theorem fr_at12 (G : Gd) (x : Int32) (f g : Nat → Int32) : fr G x f g 12 = g := rfl
theorem fr_at1 (G : Gd) (x : Int32) (f g : Nat → Int32) : fr G x f g 1 = upd (G 1) 0 x := rfl
theorem fr_ne (G : Gd) (x : Int32) (f g : Nat → Int32) {c : Nat} (h : ¬ c = 1 ∧ ¬ c = 14 ∧ ¬ c = 12) : fr G x f g c = G c := by
  unfold fr
  rw [pr_ne _ _ h.2.2, pr_ne _ _ h.2.1, p2_ne _ _ _ h.1]
theorem fr_self (G : Gd) : fr G (G 1 0) (G 14) (G 12) = G := by
  unfold fr
  rw [p2_self]
  funext c
  unfold pr
  split
  · rename_i h; rw [h]
  · split
    · rename_i h; rw [h]
    · rfl
theorem p2_fr14 (G : Gd) (x : Int32) (f g : Nat → Int32) (k : Nat) (v : Int32) : p2 (fr G x f g) 14 k v = fr G x (upd f k v) g := by
  funext c
  by_cases h : c = 14
  · subst h; rfl
  · rw [p2_ne _ _ _ h]
    unfold fr
    by_cases h2 : c = 12
    · subst h2; rfl
    · rw [pr_ne _ _ h2, pr_ne _ _ h2, pr_ne _ _ h, pr_ne _ _ h]
theorem p2_fr12 (G : Gd) (x : Int32) (f g : Nat → Int32) (k : Nat) (v : Int32) : p2 (fr G x f g) 12 k v = fr G x f (upd g k v) := by
  funext c
  by_cases h : c = 12
  · subst h; rfl
  · rw [p2_ne _ _ _ h]
    unfold fr
    rw [pr_ne _ _ h, pr_ne _ _ h]
theorem p2_fr1 (G : Gd) (x y : Int32) (f g : Nat → Int32) : p2 (fr G x f g) 1 0 y = fr G y f g := by
  funext c
  by_cases h : c = 1
  · subst h
    rw [p2_at, fr_at1, fr_at1]
    funext j
    unfold upd
    split <;> rfl
  · rw [p2_ne _ _ _ h]
    by_cases h2 : c = 14
    · subst h2; rfl
    · by_cases h3 : c = 12
      · subst h3; rfl
      · rw [fr_ne _ _ _ _ ⟨h, h2, h3⟩, fr_ne _ _ _ _ ⟨h, h2, h3⟩]
def bl3 (v : Int32) : Int32 := if v + 3 < 50 then v + 3 else 50
def zz (k : Nat) (f : Nat → Int32) : Nat → Int32 := fun b => if b < k then 0 else f b
def yd (G : Gd) (d : Int32) (k : Nat) (f : Nat → Int32) : Nat → Int32 := fun b => if b < k ∧ ¬ Se G b d = 0 then bl3 (f b) else f b
theorem zz_0 (f : Nat → Int32) : zz 0 f = f := by funext b; unfold zz; rw [if_neg (by omega)]
theorem zz_zz (k : Nat) (f : Nat → Int32) : zz k (zz k f) = zz k f := by funext b; unfold zz; split <;> rfl
theorem zz_s (k : Nat) (f : Nat → Int32) : upd (zz k f) k 0 = zz (k + 1) f := by
  funext b
  unfold upd zz
  by_cases h : b = k
  · rw [if_pos h, if_pos (by omega)]
  · rw [if_neg h]
    by_cases h2 : b < k
    · rw [if_pos h2, if_pos (by omega)]
    · rw [if_neg h2, if_neg (by omega)]
theorem yd_0 (G : Gd) (d : Int32) (f : Nat → Int32) : yd G d 0 f = f := by funext b; unfold yd; rw [if_neg (by omega)]
theorem yd_at (G : Gd) (d : Int32) (k : Nat) (f : Nat → Int32) : yd G d k f k = f k := by unfold yd; rw [if_neg (by omega)]
theorem yd_s (G : Gd) (d : Int32) (k : Nat) (f : Nat → Int32) : (Se G k d = 0 → yd G d (k + 1) f = yd G d k f) ∧ (¬ Se G k d = 0 → upd (yd G d k f) k (bl3 (f k)) = yd G d (k + 1) f) := by
  constructor
  · intro h
    funext b
    unfold yd
    by_cases h2 : b = k
    · subst h2; rw [if_neg (fun z => z.2 h), if_neg (fun z => z.2 h)]
    · by_cases h3 : b < k
      · by_cases h4 : Se G b d = 0
        · rw [if_neg (fun z => z.2 h4), if_neg (fun z => z.2 h4)]
        · rw [if_pos ⟨by omega, h4⟩, if_pos ⟨h3, h4⟩]
      · rw [if_neg (fun z => by omega), if_neg (fun z => h3 z.1)]
  · intro h
    funext b
    unfold upd yd
    by_cases h2 : b = k
    · subst h2; rw [if_pos rfl, if_pos ⟨by omega, h⟩]
    · rw [if_neg h2]
      by_cases h3 : b < k
      · by_cases h4 : Se G b d = 0
        · rw [if_neg (fun z => z.2 h4), if_neg (fun z => z.2 h4)]
        · rw [if_pos ⟨h3, h4⟩, if_pos ⟨by omega, h4⟩]
      · rw [if_neg (fun z => h3 z.1), if_neg (fun z => by omega)]
theorem Se_fr (G : Gd) (x : Int32) (f g : Nat → Int32) (b : Nat) (d : Int32) : Se (fr G x f g) b d = Se G b d := rfl
theorem bl3_in {v : Int32} (h : 0 ≤ v.toInt ∧ v.toInt ≤ 50) : 0 ≤ (bl3 v).toInt ∧ (bl3 v).toInt ≤ 50 := by
  have e : (v + 3).toInt = v.toInt + 3 := tv_add rfl rfl (by omega)
  unfold bl3
  split
  · rename_i q; rw [Int32.lt_iff_toInt_lt, e, show (50 : Int32).toInt = 50 from rfl] at q; omega
  · decide
-- the class: all beds' visits of the tick are 0 again; the days' blooms
theorem x_tick_l {σ : Sig} {n : Nat} {G : Gd} {x : Int32} {f g : Nat → Int32} (hB : 0 ≤ (G 3 0).toInt ∧ (G 3 0).toInt ≤ 8) : ∀ (fu k : Nat), k ≤ (G 3 0).toInt.toNat → (G 3 0).toInt.toNat < fu + k → f0_beginTick_b2 n fu (Int32.ofNat k) (xg σ n (fr G x (zz k f) g)) = some (xg σ n (fr G x (zz (G 3 0).toInt.toNat f) g)) := by
  intro fu
  induction fu with
  | zero => intro k h1 h2; omega
  | succ fu ih =>
    intro k h1 h2
    have ek := oN k (by omega)
    have i3 : fr G x (zz k f) g 3 = G 3 := fr_ne _ _ _ _ (by decide)
    rw [f0_beginTick_b2]
    simp only [nm_ap, bnd_ap, bns_ap, bnx_ap0, bnx_ap1, bnx_ap2, bnx_ap3, bnx_ap4, gz_0, gz_1, dvd_96, dvd_2, dvd_10000, rmd_96, rmd_8, xg_at, xg_0, mr_at, up_xg, up_mr, narz_0, narz_1, i10, i01, i11, i00, ↓reduceIte, e10, e01, e50, e51, e20, e60, e70, e30, e40, Classical.not_not, not_true_eq_false, not_false_eq_true, i3]
    by_cases hk : k = (G 3 0).toInt.toNat
    · rw [if_pos (by rw [Int32.le_iff_toInt_le, ek]; omega), hk]
    · rw [if_neg (by rw [Int32.le_iff_toInt_le, ek]; omega)]
      rw [ast_in (by rw [ek]; omega), ek]
      simp only [nm_ap, bnd_ap, bns_ap, bnx_ap0, bnx_ap1, bnx_ap2, bnx_ap3, bnx_ap4, gz_0, gz_1, dvd_96, dvd_2, dvd_10000, rmd_96, rmd_8, xg_at, xg_0, mr_at, up_xg, up_mr, narz_0, narz_1, i10, i01, i11, i00, ↓reduceIte, e10, e01, e50, e51, e20, e60, e70, e30, e40, Classical.not_not, not_true_eq_false, not_false_eq_true, Int.toNat_natCast, p2_fr14, zz_s, oN1]
      exact ih (k + 1) (by omega) (by omega)
theorem x_day_l {σ : Sig} {n : Nat} {G : Gd} {x d : Int32} {f g : Nat → Int32} (hB : 0 ≤ (G 3 0).toInt ∧ (G 3 0).toInt ≤ 8) : ∀ (fu k : Nat), k ≤ (G 3 0).toInt.toNat → (G 3 0).toInt.toNat < fu + k → f0_beginDay_b2 n fu d (Int32.ofNat k) (xg σ n (fr G x f (yd G d k g))) = some (xg σ n (fr G x f (yd G d (G 3 0).toInt.toNat g))) := by
  intro fu
  induction fu with
  | zero => intro k h1 h2; omega
  | succ fu ih =>
    intro k h1 h2
    have ek := oN k (by omega)
    have i3 : fr G x f (yd G d k g) 3 = G 3 := fr_ne _ _ _ _ (by decide)
    rw [f0_beginDay_b2]
    simp only [nm_ap, bnd_ap, bns_ap, bnx_ap0, bnx_ap1, bnx_ap2, bnx_ap3, bnx_ap4, gz_0, gz_1, dvd_96, dvd_2, dvd_10000, rmd_96, rmd_8, xg_at, xg_0, mr_at, up_xg, up_mr, narz_0, narz_1, i10, i01, i11, i00, ↓reduceIte, e10, e01, e50, e51, e20, e60, e70, e30, e40, Classical.not_not, not_true_eq_false, not_false_eq_true, i3]
    by_cases hk : k = (G 3 0).toInt.toNat
    · rw [if_pos (by rw [Int32.le_iff_toInt_le, ek]; omega), hk]
    · rw [if_neg (by rw [Int32.le_iff_toInt_le, ek]; omega)]
      have q := ih (k + 1) (by omega) (by omega)
      unfold f0_beginDay_b38
      rw [x_season (by rw [ek]; omega)]
      simp only [nm_ap, bnd_ap, bns_ap, bnx_ap0, bnx_ap1, bnx_ap2, bnx_ap3, bnx_ap4, gz_0, gz_1, dvd_96, dvd_2, dvd_10000, rmd_96, rmd_8, xg_at, xg_0, mr_at, up_xg, up_mr, narz_0, narz_1, i10, i01, i11, i00, ↓reduceIte, e10, e01, e50, e51, e20, e60, e70, e30, e40, Classical.not_not, not_true_eq_false, not_false_eq_true, ek, Int.toNat_natCast, Se_fr, oN1]
      by_cases hs : Se G k d = 0
      · rw [if_pos hs, ← (yd_s G d k g).1 hs]
        exact q
      · rw [if_neg hs, ald_in (by rw [ek]; omega)]
        simp only [nm_ap, bnd_ap, bns_ap, bnx_ap0, bnx_ap1, bnx_ap2, bnx_ap3, bnx_ap4, gz_0, gz_1, dvd_96, dvd_2, dvd_10000, rmd_96, rmd_8, xg_at, xg_0, mr_at, up_xg, up_mr, narz_0, narz_1, i10, i01, i11, i00, ↓reduceIte, e10, e01, e50, e51, e20, e60, e70, e30, e40, Classical.not_not, not_true_eq_false, not_false_eq_true, ek, Int.toNat_natCast, fr_at12, yd_at]
        rw [ast_in (by rw [ek]; omega), ek]
        simp only [nm_ap, bnd_ap, bns_ap, bnx_ap0, bnx_ap1, bnx_ap2, bnx_ap3, bnx_ap4, gz_0, gz_1, dvd_96, dvd_2, dvd_10000, rmd_96, rmd_8, xg_at, xg_0, mr_at, up_xg, up_mr, narz_0, narz_1, i10, i01, i11, i00, ↓reduceIte, e10, e01, e50, e51, e20, e60, e70, e30, e40, Classical.not_not, not_true_eq_false, not_false_eq_true, Int.toNat_natCast, p2_fr12]
        rw [show (if g k + 3 < 50 then g k + 3 else 50) = bl3 (g k) from rfl, (yd_s G d k g).2 hs]
        exact q
/-- the blooms k days later -/
def blm (G : Gd) (d0 : Nat) : Nat → Nat → Int32
  | 0 => G 12
  | k + 1 => yd G (Int32.ofNat (d0 + k + 1)) (G 3 0).toInt.toNat (blm G d0 k)
theorem Td_fr {G : Gd} {x : Int32} {f g : Nat → Int32} : Td (fr G x f g) = x / 96 := rfl
theorem x_days_l {σ : Sig} {n : Nat} {G : Gd} {x : Int32} {f : Nat → Int32} {d0 K : Nat} (hB : 0 ≤ (G 3 0).toInt ∧ (G 3 0).toInt ≤ 8) (hx : (x / 96).toInt = d0 + K) (hd : d0 + K < 1000) : ∀ (fu k : Nat), k ≤ K → K < fu + k → f4_letTicksPass_b32 n fu (Int32.ofNat (d0 + k + 1)) (xg σ n (fr G x f (blm G d0 k))) = some (xg σ n (fr G x f (blm G d0 K))) := by
  intro fu
  induction fu with
  | zero => intro k h1 h2; omega
  | succ fu ih =>
    intro k h1 h2
    have ek := oN (d0 + k + 1) (by omega)
    rw [f4_letTicksPass_b32, x_today, Td_fr]
    simp only [nm_ap, bnd_ap, bns_ap, bnx_ap0, bnx_ap1, bnx_ap2, bnx_ap3, bnx_ap4, gz_0, gz_1, dvd_96, dvd_2, dvd_10000, rmd_96, rmd_8, xg_at, xg_0, mr_at, up_xg, up_mr, narz_0, narz_1, i10, i01, i11, i00, ↓reduceIte, e10, e01, e50, e51, e20, e60, e70, e30, e40, Classical.not_not, not_true_eq_false, not_false_eq_true]
    by_cases hk : k = K
    · rw [if_pos (by rw [Int32.lt_iff_toInt_lt, ek, hx]; omega), hk]
    · rw [if_neg (by rw [Int32.lt_iff_toInt_lt, ek, hx]; omega)]
      have q := ih (k + 1) (by omega) (by omega)
      have z := x_day_l (σ := σ) (n := n) (G := G) (x := x) (d := Int32.ofNat (d0 + k + 1)) (f := f) (g := blm G d0 k) hB FU 0 (by omega) (by unfold FU; omega)
      rw [yd_0] at z
      unfold f0_beginDay
      rw [show (0 : Int32) = Int32.ofNat 0 from rfl, z]
      simp only [nm_ap, bnd_ap, bns_ap, bnx_ap0, bnx_ap1, bnx_ap2, bnx_ap3, bnx_ap4, gz_0, gz_1, dvd_96, dvd_2, dvd_10000, rmd_96, rmd_8, xg_at, xg_0, mr_at, up_xg, up_mr, narz_0, narz_1, i10, i01, i11, i00, ↓reduceIte, e10, e01, e50, e51, e20, e60, e70, e30, e40, Classical.not_not, not_true_eq_false, not_false_eq_true, oN1]
      exact q
/-- t ticks later -/
def Gtk (G : Gd) (t : Int32) : Gd := fr G (G 1 0 + t) (zz (G 3 0).toInt.toNat (G 14)) (blm G (Td G).toInt.toNat (((G 1 0).toInt + t.toInt) / 96 - (G 1 0).toInt / 96).toNat)
theorem x_ticks {σ : Sig} {n : Nat} {G : Gd} (hi : Iv G) {t : Int32} (ht : 1 ≤ t.toInt ∧ (G 1 0).toInt + t.toInt ≤ 9599) : f4_letTicksPass n t (xg σ n G) = some (xg σ n (Gtk G t)) := by
  have h0 := hi.1
  have hd := Td_in hi
  have e : (G 1 0 + t).toInt = (G 1 0).toInt + t.toInt := tv_add rfl rfl (by omega)
  have ex : ((G 1 0 + t) / 96).toInt = ((G 1 0).toInt + t.toInt) / 96 := tv_div e rfl (by omega)
  have a := x_tick_l (σ := σ) (n := n) (G := G) (x := G 1 0 + t) (f := G 14) (g := G 12) (by omega) FU 0 (by omega) (by unfold FU; omega)
  have b := x_days_l (σ := σ) (n := n) (G := G) (x := G 1 0 + t) (f := zz (G 3 0).toInt.toNat (G 14)) (d0 := (Td G).toInt.toNat) (K := (((G 1 0).toInt + t.toInt) / 96 - (G 1 0).toInt / 96).toNat) (by omega) (by rw [ex]; omega) (by omega) FU 0 (by omega) (by unfold FU; omega)
  rw [zz_0] at a
  unfold f4_letTicksPass
  rw [x_today]
  simp only [nm_ap, bnd_ap, bns_ap, bnx_ap0, bnx_ap1, bnx_ap2, bnx_ap3, bnx_ap4, gz_0, gz_1, dvd_96, dvd_2, dvd_10000, rmd_96, rmd_8, xg_at, xg_0, mr_at, up_xg, up_mr, narz_0, narz_1, i10, i01, i11, i00, ↓reduceIte, e10, e01, e50, e51, e20, e60, e70, e30, e40, Classical.not_not, not_true_eq_false, not_false_eq_true]
  rw [show p2 G 1 0 (G 1 0 + t) = fr G (G 1 0 + t) (G 14) (G 12) by rw [← p2_fr1 G (G 1 0), fr_self]]
  unfold f0_beginTick
  rw [show (0 : Int32) = Int32.ofNat 0 from rfl, a]
  simp only [nm_ap, bnd_ap, bns_ap, bnx_ap0, bnx_ap1, bnx_ap2, bnx_ap3, bnx_ap4, gz_0, gz_1, dvd_96, dvd_2, dvd_10000, rmd_96, rmd_8, xg_at, xg_0, mr_at, up_xg, up_mr, narz_0, narz_1, i10, i01, i11, i00, ↓reduceIte, e10, e01, e50, e51, e20, e60, e70, e30, e40, Classical.not_not, not_true_eq_false, not_false_eq_true]
  rw [show Td G + 1 = Int32.ofNat ((Td G).toInt.toNat + 0 + 1) from by
    apply ti_ext
    rw [oN _ (by omega), tv_add rfl (show (1 : Int32).toInt = 1 from rfl) (by omega)]
    omega]
  exact b
-- the reference: tick by tick
theorem rg_now {G : Gd} {w : Rw} (h : RG G w) {b : Nat} (hb : (b : Int) < (G 3 0).toInt) (v : Int32) (hB : Bd G) : RG (p2 G 14 b v) (upd w (20 + 7 * b + 5) v) := by
  refine ⟨?_, fun i9 hi9 => ?_, fun b9 hb9 => ?_, fun q9 hq9 => ?_, fun k9 hk9 => ?_⟩
  · simp (disch := omega) only [upd_at, upd_ne, p2_at, p2_ne, h.s0, h.s1, h.s2, h.s3, h.s4, h.s5, h.s6, h.s7, h.s8, h.s9, h.s10, h.s11, h.s12, h.s13, h.s14, and_self, and_true, true_and]
  · simp (disch := omega) only [upd_at, upd_ne, p2_at, p2_ne] at hi9
    have hh := h.2.1 i9 hi9
    simp (disch := omega) only [upd_at, upd_ne, p2_at, p2_ne, hh, and_self, and_true, true_and]
  · simp (disch := omega) only [upd_at, upd_ne, p2_at, p2_ne] at hb9
    have hh := h.2.2.1 b9 hb9
    by_cases e9_ : b9 = b
    · subst e9_
      simp (disch := omega) only [upd_at, upd_ne, p2_at, p2_ne, hh, and_self, and_true, true_and]
    · simp (disch := omega) only [upd_at, upd_ne, p2_at, p2_ne, hh, and_self, and_true, true_and]
  · simp (disch := omega) only [upd_at, upd_ne, p2_at, p2_ne] at hq9
    have hh := h.2.2.2.1 q9 hq9
    simp (disch := omega) only [upd_at, upd_ne, p2_at, p2_ne, hh, and_self, and_true, true_and]
  · simp (disch := omega) only [upd_at, upd_ne, p2_at, p2_ne] at hk9
    have hh := h.2.2.2.2 k9 hk9
    simp (disch := omega) only [upd_at, upd_ne, p2_at, p2_ne, hh, and_self, and_true, true_and]
theorem rg_blm {G : Gd} {w : Rw} (h : RG G w) {b : Nat} (hb : (b : Int) < (G 3 0).toInt) (v : Int32) (hB : Bd G) : RG (p2 G 12 b v) (upd w (20 + 7 * b + 4) v) := by
  refine ⟨?_, fun i9 hi9 => ?_, fun b9 hb9 => ?_, fun q9 hq9 => ?_, fun k9 hk9 => ?_⟩
  · simp (disch := omega) only [upd_at, upd_ne, p2_at, p2_ne, h.s0, h.s1, h.s2, h.s3, h.s4, h.s5, h.s6, h.s7, h.s8, h.s9, h.s10, h.s11, h.s12, h.s13, h.s14, and_self, and_true, true_and]
  · simp (disch := omega) only [upd_at, upd_ne, p2_at, p2_ne] at hi9
    have hh := h.2.1 i9 hi9
    simp (disch := omega) only [upd_at, upd_ne, p2_at, p2_ne, hh, and_self, and_true, true_and]
  · simp (disch := omega) only [upd_at, upd_ne, p2_at, p2_ne] at hb9
    have hh := h.2.2.1 b9 hb9
    by_cases e9_ : b9 = b
    · subst e9_
      simp (disch := omega) only [upd_at, upd_ne, p2_at, p2_ne, hh, and_self, and_true, true_and]
    · simp (disch := omega) only [upd_at, upd_ne, p2_at, p2_ne, hh, and_self, and_true, true_and]
  · simp (disch := omega) only [upd_at, upd_ne, p2_at, p2_ne] at hq9
    have hh := h.2.2.2.1 q9 hq9
    simp (disch := omega) only [upd_at, upd_ne, p2_at, p2_ne, hh, and_self, and_true, true_and]
  · simp (disch := omega) only [upd_at, upd_ne, p2_at, p2_ne] at hk9
    have hh := h.2.2.2.2 k9 hk9
    simp (disch := omega) only [upd_at, upd_ne, p2_at, p2_ne, hh, and_self, and_true, true_and]
theorem rg_time {G : Gd} {w : Rw} (h : RG G w) (v : Int32) (hB : Bd G) : RG (p2 G 1 0 v) (upd w 4 v) := by
  refine ⟨?_, fun i9 hi9 => ?_, fun b9 hb9 => ?_, fun q9 hq9 => ?_, fun k9 hk9 => ?_⟩
  · simp (disch := omega) only [upd_at, upd_ne, p2_at, p2_ne, h.s0, h.s1, h.s2, h.s3, h.s4, h.s5, h.s6, h.s7, h.s8, h.s9, h.s10, h.s11, h.s12, h.s13, h.s14, and_self, and_true, true_and]
  · simp (disch := omega) only [upd_at, upd_ne, p2_at, p2_ne] at hi9
    have hh := h.2.1 i9 hi9
    simp (disch := omega) only [upd_at, upd_ne, p2_at, p2_ne, hh, and_self, and_true, true_and]
  · simp (disch := omega) only [upd_at, upd_ne, p2_at, p2_ne] at hb9
    have hh := h.2.2.1 b9 hb9
    simp (disch := omega) only [upd_at, upd_ne, p2_at, p2_ne, hh, and_self, and_true, true_and]
  · simp (disch := omega) only [upd_at, upd_ne, p2_at, p2_ne] at hq9
    have hh := h.2.2.2.1 q9 hq9
    simp (disch := omega) only [upd_at, upd_ne, p2_at, p2_ne, hh, and_self, and_true, true_and]
  · simp (disch := omega) only [upd_at, upd_ne, p2_at, p2_ne] at hk9
    have hh := h.2.2.2.2 k9 hk9
    simp (disch := omega) only [upd_at, upd_ne, p2_at, p2_ne, hh, and_self, and_true, true_and]
theorem m_season8 {G : Gd} {w : Rw} (h : RG G w) (τ : Sig) {b : Int32} (h8 : 0 ≤ b.toInt ∧ b.toInt < 8) (hb : 0 ≤ b.toInt ∧ b.toInt < (G 3 0).toInt) : f12_inSeason b (mr τ w) = some (Se G b.toInt.toNat (Td G)) := by
  have hn : ((b.toInt.toNat : Nat) : Int) < (G 3 0).toInt := by omega
  unfold f12_inSeason Se
  simp only [m_today h, mb_2 h8, mb_3 h8, h.b2 hn, h.b3 hn, nm_ap, bnd_ap, bns_ap, bnx_ap0, bnx_ap1, bnx_ap2, bnx_ap3, bnx_ap4, gz_0, gz_1, dvd_96, dvd_2, dvd_10000, rmd_96, rmd_8, xg_at, xg_0, mr_at, up_xg, up_mr, narz_0, narz_1, i10, i01, i11, i00, ↓reduceIte, e10, e01, e50, e51, e20, e60, e70, e30, e40, Classical.not_not, not_true_eq_false, not_false_eq_true, Int32.lt_iff_toInt_lt, Int32.le_iff_toInt_le, ← Int32.toInt_inj, Int32.reduceToInt, Int.reduceEq, Int.reduceLT, Int.reduceLE, Int.reduceNeg, ↓reduceIte, not_true_eq_false, not_false_eq_true]
  repeat' split
  all_goals first | rfl | (exfalso; omega)
theorem Bd_fr {G : Gd} (hB : Bd G) (x : Int32) (f g : Nat → Int32) : Bd (fr G x f g) := hB
/-- the blooms behind one tick, the beds before k done -/
def yt (G : Gd) (x : Int32) (k : Nat) (f : Nat → Int32) : Nat → Int32 := if x - x / 96 * 96 = 0 then yd G (x / 96) k f else f
theorem m_tick_l {τ : Sig} {G : Gd} {x : Int32} {f g : Nat → Int32} (hB : Bd G) (h3 : 0 ≤ (G 3 0).toInt) : ∀ (fu k : Nat) (w : Rw), k ≤ (G 3 0).toInt.toNat → (G 3 0).toInt.toNat < fu + k → RG (fr G x (zz k f) (yt G x k g)) w → ∃ w', f12_passOne_b12 fu (Int32.ofNat k) (mr τ w) = some (mr τ w') ∧ RG (fr G x (zz (G 3 0).toInt.toNat f) (yt G x (G 3 0).toInt.toNat g)) w' := by
  intro fu
  induction fu with
  | zero => intro k w h1 h2; omega
  | succ fu ih =>
    intro k w h1 h2 h
    have hB2 := hB.2.1
    have ek := oN k (by omega)
    have s1 : w 1 = G 3 0 := h.s1
    rw [f12_passOne_b12]
    simp only [nm_ap, bnd_ap, bns_ap, bnx_ap0, bnx_ap1, bnx_ap2, bnx_ap3, bnx_ap4, gz_0, gz_1, dvd_96, dvd_2, dvd_10000, rmd_96, rmd_8, xg_at, xg_0, mr_at, up_xg, up_mr, narz_0, narz_1, i10, i01, i11, i00, ↓reduceIte, e10, e01, e50, e51, e20, e60, e70, e30, e40, Classical.not_not, not_true_eq_false, not_false_eq_true, al_0, al_1, al_2, al_3, al_4, al_5, al_6, al_7, al_8, al_9, al_10, al_11, al_12, al_13, al_14, s1]
    by_cases hk : k = (G 3 0).toInt.toNat
    · rw [if_pos (by rw [Int32.le_iff_toInt_le, ek]; omega)]
      exact ⟨w, rfl, by rw [← hk]; exact h⟩
    · rw [if_neg (by rw [Int32.le_iff_toInt_le, ek]; omega)]
      have hk8 : 0 ≤ (Int32.ofNat k).toInt ∧ (Int32.ofNat k).toInt < 8 := by rw [ek]; omega
      have hkn : (k : Int) < (G 3 0).toInt := by omega
      have ekn : (Int32.ofNat k).toInt.toNat = k := by rw [ek]; rfl
      have r1 := rg_now h (b := k) hkn 0 (Bd_fr hB _ _ _)
      rw [p2_fr14, zz_s] at r1
      have s4 : upd w (20 + 7 * k + 5) 0 4 = x := r1.s4
      unfold f12_passOne_b81 f12_passOne_b78
      simp only [mq_5 hk8, ekn, nm_ap, bnd_ap, bns_ap, bnx_ap0, bnx_ap1, bnx_ap2, bnx_ap3, bnx_ap4, gz_0, gz_1, dvd_96, dvd_2, dvd_10000, rmd_96, rmd_8, xg_at, xg_0, mr_at, up_xg, up_mr, narz_0, narz_1, i10, i01, i11, i00, ↓reduceIte, e10, e01, e50, e51, e20, e60, e70, e30, e40, Classical.not_not, not_true_eq_false, not_false_eq_true, al_0, al_1, al_2, al_3, al_4, al_5, al_6, al_7, al_8, al_9, al_10, al_11, al_12, al_13, al_14, s4, oN1]
      by_cases hh : x - x / 96 * 96 = 0
      · rw [if_pos hh, m_season8 r1 τ hk8 (by rw [ek, fr_ne _ _ _ _ (by decide : ¬ 3 = 1 ∧ ¬ 3 = 14 ∧ ¬ 3 = 12)]; omega)]
        simp only [nm_ap, bnd_ap, bns_ap, bnx_ap0, bnx_ap1, bnx_ap2, bnx_ap3, bnx_ap4, gz_0, gz_1, dvd_96, dvd_2, dvd_10000, rmd_96, rmd_8, xg_at, xg_0, mr_at, up_xg, up_mr, narz_0, narz_1, i10, i01, i11, i00, ↓reduceIte, e10, e01, e50, e51, e20, e60, e70, e30, e40, Classical.not_not, not_true_eq_false, not_false_eq_true, ekn, Se_fr, Td_fr]
        have yt1 : ∀ k, yt G x k g = yd G (x / 96) k g := fun k => by unfold yt; rw [if_pos hh]
        by_cases hs : Se G k (x / 96) = 0
        · rw [if_pos hs]
          refine ih (k + 1) _ (by omega) (by omega) ?_
          rw [yt1, (yd_s G (x / 96) k g).1 hs, ← yt1]
          exact r1
        · rw [if_neg hs]
          have b4 := r1.b4 (b := k) hkn
          rw [fr_at12, yt1, yd_at] at b4
          have r2 := rg_blm r1 (b := k) hkn (bl3 (g k)) (Bd_fr hB _ _ _)
          rw [p2_fr12, yt1, (yd_s G (x / 96) k g).2 hs, ← yt1] at r2
          obtain ⟨w', q1, q2⟩ := ih (k + 1) _ (by omega) (by omega) r2
          refine ⟨w', ?_, q2⟩
          simp only [mb_4 hk8, ekn, b4, nm_ap, bnd_ap, bns_ap, bnx_ap0, bnx_ap1, bnx_ap2, bnx_ap3, bnx_ap4, gz_0, gz_1, dvd_96, dvd_2, dvd_10000, rmd_96, rmd_8, xg_at, xg_0, mr_at, up_xg, up_mr, narz_0, narz_1, i10, i01, i11, i00, ↓reduceIte, e10, e01, e50, e51, e20, e60, e70, e30, e40, Classical.not_not, not_true_eq_false, not_false_eq_true]
          unfold bl3 at q1
          by_cases hc : g k + 3 < 50
          · rw [if_pos hc] at q1
            rw [if_neg (by rw [Int32.not_le]; exact hc)]
            unfold f12_passOne_b81
            simp only [mb_4 hk8, ekn, b4, nm_ap, bnd_ap, bns_ap, bnx_ap0, bnx_ap1, bnx_ap2, bnx_ap3, bnx_ap4, gz_0, gz_1, dvd_96, dvd_2, dvd_10000, rmd_96, rmd_8, xg_at, xg_0, mr_at, up_xg, up_mr, narz_0, narz_1, i10, i01, i11, i00, ↓reduceIte, e10, e01, e50, e51, e20, e60, e70, e30, e40, Classical.not_not, not_true_eq_false, not_false_eq_true, mq_4 hk8, oN1]
            exact q1
          · rw [if_neg hc] at q1
            rw [if_pos (by rw [← Int32.not_lt]; exact hc)]
            unfold f12_passOne_b81
            simp only [ekn, nm_ap, bnd_ap, bns_ap, bnx_ap0, bnx_ap1, bnx_ap2, bnx_ap3, bnx_ap4, gz_0, gz_1, dvd_96, dvd_2, dvd_10000, rmd_96, rmd_8, xg_at, xg_0, mr_at, up_xg, up_mr, narz_0, narz_1, i10, i01, i11, i00, ↓reduceIte, e10, e01, e50, e51, e20, e60, e70, e30, e40, Classical.not_not, not_true_eq_false, not_false_eq_true, mq_4 hk8, oN1]
            exact q1
      · rw [if_neg hh]
        refine ih (k + 1) _ (by omega) (by omega) ?_
        have yt1 : ∀ k, yt G x k g = g := fun k => by unfold yt; rw [if_neg hh]
        rw [yt1] at r1 ⊢
        exact r1
theorem m_one {τ : Sig} {G : Gd} {x : Int32} {f g : Nat → Int32} {w : Rw} (hB : Bd G) (h3 : 0 ≤ (G 3 0).toInt) (h : RG (fr G x f g) w) : ∃ w', f12_passOne (mr τ w) = some (mr τ w') ∧ RG (fr G (x + 1) (zz (G 3 0).toInt.toNat f) (yt G (x + 1) (G 3 0).toInt.toNat g)) w' := by
  have s4 : w 4 = x := h.s4
  have r := rg_time h (x + 1) (Bd_fr hB _ _ _)
  rw [p2_fr1] at r
  obtain ⟨w', q1, q2⟩ := m_tick_l (τ := τ) (G := G) (x := x + 1) (f := f) (g := g) hB h3 FU 0 (upd w 4 (x + 1)) (by omega) (by have := hB.2.1; unfold FU; omega) (by
    rw [zz_0, show yt G (x + 1) 0 g = g from by unfold yt; rw [yd_0]; split <;> rfl]
    exact r)
  refine ⟨w', ?_, q2⟩
  unfold f12_passOne
  simp only [nm_ap, bnd_ap, bns_ap, bnx_ap0, bnx_ap1, bnx_ap2, bnx_ap3, bnx_ap4, gz_0, gz_1, dvd_96, dvd_2, dvd_10000, rmd_96, rmd_8, xg_at, xg_0, mr_at, up_xg, up_mr, narz_0, narz_1, i10, i01, i11, i00, ↓reduceIte, e10, e01, e50, e51, e20, e60, e70, e30, e40, Classical.not_not, not_true_eq_false, not_false_eq_true, al_0, al_1, al_2, al_3, al_4, al_5, al_6, al_7, al_8, al_9, al_10, al_11, al_12, al_13, al_14, as_0, as_1, as_2, as_3, as_4, as_5, as_6, as_7, as_8, as_9, as_10, as_11, as_12, as_13, as_14, s4]
  exact q1
theorem m_all_l {τ : Sig} {G : Gd} {t : Int32} (hi : Iv G) (ht : 1 ≤ t.toInt ∧ (G 1 0).toInt + t.toInt ≤ 9599) : ∀ (fu u : Nat) (w : Rw) (f : Nat → Int32), (u : Int) ≤ t.toInt → t.toInt < fu + u → zz (G 3 0).toInt.toNat f = zz (G 3 0).toInt.toNat (G 14) → (u = 0 ∨ f = zz (G 3 0).toInt.toNat (G 14)) → RG (fr G (G 1 0 + Int32.ofNat u) f (blm G (Td G).toInt.toNat (((G 1 0).toInt + u) / 96 - (G 1 0).toInt / 96).toNat)) w → ∃ w', f12_passAll_b2 fu t (Int32.ofNat u) (mr τ w) = some (mr τ w') ∧ RG (Gtk G t) w' := by
  have h0 := hi.1
  have hd := Td_in hi
  intro fu
  induction fu with
  | zero => intro u w f h1 h2; omega
  | succ fu ih =>
    intro u w f h1 h2 hf hf2 h
    have eu := oN u (by omega)
    rw [f12_passAll_b2]
    by_cases hu : (u : Int) = t.toInt
    · rw [if_pos (by rw [Int32.le_iff_toInt_le, eu]; omega)]
      refine ⟨w, rfl, ?_⟩
      have e : Int32.ofNat u = t := ti_ext (by rw [eu, hu])
      rw [e, hu] at h
      rcases hf2 with q | q
      · omega
      · rw [q] at h; exact h
    · rw [if_neg (by rw [Int32.le_iff_toInt_le, eu]; omega)]
      obtain ⟨w1, q1, q2⟩ := m_one (τ := τ) hi.bd (by omega) h
      rw [q1]
      simp only [nm_ap, bnd_ap, bns_ap, bnx_ap0, bnx_ap1, bnx_ap2, bnx_ap3, bnx_ap4, gz_0, gz_1, dvd_96, dvd_2, dvd_10000, rmd_96, rmd_8, xg_at, xg_0, mr_at, up_xg, up_mr, narz_0, narz_1, i10, i01, i11, i00, ↓reduceIte, e10, e01, e50, e51, e20, e60, e70, e30, e40, Classical.not_not, not_true_eq_false, not_false_eq_true, oN1]
      refine ih (u + 1) w1 (zz (G 3 0).toInt.toNat (G 14)) (by omega) (by omega) (zz_zz _ _) (Or.inr rfl) ?_
      have ex : G 1 0 + Int32.ofNat u + 1 = G 1 0 + Int32.ofNat (u + 1) := by rw [Int32.add_assoc, oN1]
      have ev : (G 1 0 + Int32.ofNat (u + 1)).toInt = (G 1 0).toInt + (u + 1) := tv_add rfl (oN _ (by omega)) (by omega)
      rw [ex, hf] at q2
      have ed : ((G 1 0 + Int32.ofNat (u + 1)) / 96).toInt = ((G 1 0).toInt + (u + 1)) / 96 := tv_div ev rfl (by omega)
      have em : ((G 1 0 + Int32.ofNat (u + 1)) / 96 * 96).toInt = ((G 1 0).toInt + (u + 1)) / 96 * 96 := tv_mul ed rfl (by omega)
      have er : (G 1 0 + Int32.ofNat (u + 1) - (G 1 0 + Int32.ofNat (u + 1)) / 96 * 96).toInt = (G 1 0).toInt + (u + 1) - ((G 1 0).toInt + (u + 1)) / 96 * 96 := tv_sub ev em (by omega)
      have e0 : (0 : Int32).toInt = 0 := rfl
      have ey : yt G (G 1 0 + Int32.ofNat (u + 1)) (G 3 0).toInt.toNat (blm G (Td G).toInt.toNat (((G 1 0).toInt + u) / 96 - (G 1 0).toInt / 96).toNat) = blm G (Td G).toInt.toNat (((G 1 0).toInt + (u + 1 : Nat)) / 96 - (G 1 0).toInt / 96).toNat := by
        unfold yt
        by_cases hh : G 1 0 + Int32.ofNat (u + 1) - (G 1 0 + Int32.ofNat (u + 1)) / 96 * 96 = 0
        · rw [if_pos hh]
          rw [← Int32.toInt_inj, er, e0] at hh
          rw [show (((G 1 0).toInt + (u + 1 : Nat)) / 96 - (G 1 0).toInt / 96).toNat = (((G 1 0).toInt + u) / 96 - (G 1 0).toInt / 96).toNat + 1 by omega]
          rw [blm]
          congr 1
          apply ti_ext
          rw [oN _ (by omega), ed]
          omega
        · rw [if_neg hh]
          rw [← Int32.toInt_inj, er, e0] at hh
          rw [show (((G 1 0).toInt + (u + 1 : Nat)) / 96 - (G 1 0).toInt / 96).toNat = (((G 1 0).toInt + u) / 96 - (G 1 0).toInt / 96).toNat by omega]
      rw [ey] at q2
      exact q2
theorem m_ticks {τ : Sig} {G : Gd} {w : Rw} (h : RG G w) (hi : Iv G) {t : Int32} (ht : 1 ≤ t.toInt ∧ t.toInt ≤ 500 ∧ (G 1 0).toInt + t.toInt ≤ 9599) : ∃ w', f12_passAll t (mr τ w) = some (mr τ w') ∧ RG (Gtk G t) w' := by
  refine m_all_l hi ⟨ht.1, ht.2.2⟩ FU 0 w (G 14) (by omega) (by unfold FU; omega) rfl (Or.inl rfl) ?_
  rw [show G 1 0 + Int32.ofNat 0 = G 1 0 from Int32.add_zero _, show (((G 1 0).toInt + (0 : Nat)) / 96 - (G 1 0).toInt / 96).toNat = 0 by omega, blm, fr_self]
  exact h
theorem blm_in {G : Gd} (hi : Iv G) (d0 k : Nat) {b : Nat} (hb : (b : Int) < (G 3 0).toInt) : 0 ≤ (blm G d0 k b).toInt ∧ (blm G d0 k b).toInt ≤ 50 := by
  induction k with
  | zero => have := hi.b hb; rw [blm]; omega
  | succ k ih =>
    rw [blm]
    unfold yd
    split
    · exact bl3_in ih
    · exact ih
theorem iv_tk {G : Gd} (hi : Iv G) {t : Int32} (ht : 1 ≤ t.toInt ∧ (G 1 0).toInt + t.toInt ≤ 9599) : Iv (Gtk G t) := by
  have h0 := hi.1
  have e : (G 1 0 + t).toInt = (G 1 0).toInt + t.toInt := tv_add rfl rfl (by omega)
  have i : ∀ c, ¬ c = 1 ∧ ¬ c = 14 ∧ ¬ c = 12 → Gtk G t c = G c := fun c hc => fr_ne _ _ _ _ hc
  have i1 : Gtk G t 1 0 = G 1 0 + t := rfl
  have i14 : Gtk G t 14 = zz (G 3 0).toInt.toNat (G 14) := rfl
  have i12 : ∀ b : Nat, (b : Int) < (G 3 0).toInt → 0 ≤ (Gtk G t 12 b).toInt ∧ (Gtk G t 12 b).toInt ≤ 50 := fun b hb => blm_in hi _ _ hb
  have i0 := i 0 (by decide)
  have i2 := i 2 (by decide)
  have i3 := i 3 (by decide)
  have i4 := i 4 (by decide)
  have i5 := i 5 (by decide)
  have e0 : (0 : Int32).toInt = 0 := rfl
  refine ⟨?_, fun q9 hq9 => ?_, fun b9 hb9 => ?_, fun q9 hq9 => ?_, fun k9 hk9 => ?_, ?_⟩
  · rw [i0, i2, i3, i4, i5, i1]
    omega
  · rw [i2] at hq9
    rw [i 7 (by decide)]
    exact hi.2.1 q9 hq9
  · rw [i3] at hb9
    have hh := hi.b hb9
    have z : zz (G 3 0).toInt.toNat (G 14) b9 = 0 := if_pos (by omega)
    have y := i12 b9 hb9
    rw [i 9 (by decide), i 13 (by decide), i14, z, i1]
    omega
  · rw [i4] at hq9
    have hh := hi.p hq9
    rw [i 16 (by decide), i 17 (by decide), i 18 (by decide), i 19 (by decide), i 20 (by decide), i 21 (by decide), i 22 (by decide), i 23 (by decide), i 24 (by decide), i 25 (by decide), i 26 (by decide), i5, i3, i1]
    omega
  · rw [i5] at hk9
    rw [i 27 (by decide), i 28 (by decide), i4]
    exact hi.k hk9
  · rw [i4, i3, i 23 (by decide), i 13 (by decide)]
    exact hi.2.2.2.2.2
