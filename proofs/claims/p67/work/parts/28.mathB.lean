/-! the class alone, out of the whole check's mathematics -/
def fr (G : Gd) (x : Int32) (f14 f12 : Nat → Int32) : Gd := pr (pr (p2 G 1 0 x) 14 f14) 12 f12
theorem fr_at12 (G : Gd) (x : Int32) (f g : Nat → Int32) : fr G x f g 12 = g := rfl
theorem fr_at1 (G : Gd) (x : Int32) (f g : Nat → Int32) : fr G x f g 1 = upd (G 1) 0 x := rfl
theorem fr_ne (G : Gd) (x : Int32) (f g : Nat → Int32) {c : Nat} (h : ¬ c = 1 ∧ ¬ c = 14 ∧ ¬ c = 12) : fr G x f g c = G c := by
  unfold fr
  rw [pr_ne _ _ h.2.2, pr_ne _ _ h.2.1, p2_ne _ _ _ h.1]
theorem fr_self (G : Gd) : fr G (G 1 0) (G 14) (G 12) = G := by
  unfold fr
  rw [p2_self]
  funext c
  unfold pr
  split
  · rename_i h; rw [h]
  · split
    · rename_i h; rw [h]
    · rfl
theorem p2_fr14 (G : Gd) (x : Int32) (f g : Nat → Int32) (k : Nat) (v : Int32) : p2 (fr G x f g) 14 k v = fr G x (upd f k v) g := by
  funext c
  by_cases h : c = 14
  · subst h; rfl
  · rw [p2_ne _ _ _ h]
    unfold fr
    by_cases h2 : c = 12
    · subst h2; rfl
    · rw [pr_ne _ _ h2, pr_ne _ _ h2, pr_ne _ _ h, pr_ne _ _ h]
theorem p2_fr12 (G : Gd) (x : Int32) (f g : Nat → Int32) (k : Nat) (v : Int32) : p2 (fr G x f g) 12 k v = fr G x f (upd g k v) := by
  funext c
  by_cases h : c = 12
  · subst h; rfl
  · rw [p2_ne _ _ _ h]
    unfold fr
    rw [pr_ne _ _ h, pr_ne _ _ h]
theorem p2_fr1 (G : Gd) (x y : Int32) (f g : Nat → Int32) : p2 (fr G x f g) 1 0 y = fr G y f g := by
  funext c
  by_cases h : c = 1
  · subst h
    rw [p2_at, fr_at1, fr_at1]
    funext j
    unfold upd
    split <;> rfl
  · rw [p2_ne _ _ _ h]
    by_cases h2 : c = 14
    · subst h2; rfl
    · by_cases h3 : c = 12
      · subst h3; rfl
      · rw [fr_ne _ _ _ _ ⟨h, h2, h3⟩, fr_ne _ _ _ _ ⟨h, h2, h3⟩]
def bl3 (v : Int32) : Int32 := if v + 3 < 50 then v + 3 else 50
def zz (k : Nat) (f : Nat → Int32) : Nat → Int32 := fun b => if b < k then 0 else f b
def yd (G : Gd) (d : Int32) (k : Nat) (f : Nat → Int32) : Nat → Int32 := fun b => if b < k ∧ ¬ Se G b d = 0 then bl3 (f b) else f b
theorem zz_0 (f : Nat → Int32) : zz 0 f = f := by funext b; unfold zz; rw [if_neg (by omega)]
theorem zz_s (k : Nat) (f : Nat → Int32) : upd (zz k f) k 0 = zz (k + 1) f := by
  funext b
  unfold upd zz
  by_cases h : b = k
  · rw [if_pos h, if_pos (by omega)]
  · rw [if_neg h]
    by_cases h2 : b < k
    · rw [if_pos h2, if_pos (by omega)]
    · rw [if_neg h2, if_neg (by omega)]
theorem yd_0 (G : Gd) (d : Int32) (f : Nat → Int32) : yd G d 0 f = f := by funext b; unfold yd; rw [if_neg (by omega)]
theorem yd_at (G : Gd) (d : Int32) (k : Nat) (f : Nat → Int32) : yd G d k f k = f k := by unfold yd; rw [if_neg (by omega)]
theorem yd_s (G : Gd) (d : Int32) (k : Nat) (f : Nat → Int32) : (Se G k d = 0 → yd G d (k + 1) f = yd G d k f) ∧ (¬ Se G k d = 0 → upd (yd G d k f) k (bl3 (f k)) = yd G d (k + 1) f) := by
  constructor
  · intro h
    funext b
    unfold yd
    by_cases h2 : b = k
    · subst h2; rw [if_neg (fun z => z.2 h), if_neg (fun z => z.2 h)]
    · by_cases h3 : b < k
      · by_cases h4 : Se G b d = 0
        · rw [if_neg (fun z => z.2 h4), if_neg (fun z => z.2 h4)]
        · rw [if_pos ⟨by omega, h4⟩, if_pos ⟨h3, h4⟩]
      · rw [if_neg (fun z => by omega), if_neg (fun z => h3 z.1)]
  · intro h
    funext b
    unfold upd yd
    by_cases h2 : b = k
    · subst h2; rw [if_pos rfl, if_pos ⟨by omega, h⟩]
    · rw [if_neg h2]
      by_cases h3 : b < k
      · by_cases h4 : Se G b d = 0
        · rw [if_neg (fun z => z.2 h4), if_neg (fun z => z.2 h4)]
        · rw [if_pos ⟨h3, h4⟩, if_pos ⟨by omega, h4⟩]
      · rw [if_neg (fun z => h3 z.1), if_neg (fun z => by omega)]
theorem Se_fr (G : Gd) (x : Int32) (f g : Nat → Int32) (b : Nat) (d : Int32) : Se (fr G x f g) b d = Se G b d := rfl
theorem bl3_in {v : Int32} (h : 0 ≤ v.toInt ∧ v.toInt ≤ 50) : 0 ≤ (bl3 v).toInt ∧ (bl3 v).toInt ≤ 50 := by
  have e : (v + 3).toInt = v.toInt + 3 := tv_add rfl rfl (by omega)
  unfold bl3
  split
  · rename_i q; rw [Int32.lt_iff_toInt_lt, e, show (50 : Int32).toInt = 50 from rfl] at q; omega
  · decide
theorem x_tick_l {σ : Sig} {n : Nat} {G : Gd} {x : Int32} {f g : Nat → Int32} (hB : 0 ≤ (G 3 0).toInt ∧ (G 3 0).toInt ≤ 8) : ∀ (fu k : Nat), k ≤ (G 3 0).toInt.toNat → (G 3 0).toInt.toNat < fu + k → f0_beginTick_b2 n fu (Int32.ofNat k) (xg σ n (fr G x (zz k f) g)) = some (xg σ n (fr G x (zz (G 3 0).toInt.toNat f) g)) := by
  intro fu
  induction fu with
  | zero => intro k h1 h2; omega
  | succ fu ih =>
    intro k h1 h2
    have ek := oN k (by omega)
    have i3 : fr G x (zz k f) g 3 = G 3 := fr_ne _ _ _ _ (by decide)
    rw [f0_beginTick_b2]
    simp only [nm_ap, bnd_ap, bns_ap, bnx_ap0, bnx_ap1, bnx_ap2, bnx_ap3, bnx_ap4, gz_0, gz_1, dvd_96, dvd_2, dvd_10000, rmd_96, rmd_8, xg_at, xg_0, mr_at, up_xg, up_mr, narz_0, narz_1, i10, i01, i11, i00, ↓reduceIte, e10, e01, e50, e51, e20, e60, e70, e30, e40, Classical.not_not, not_true_eq_false, not_false_eq_true, i3]
    by_cases hk : k = (G 3 0).toInt.toNat
    · rw [if_pos (by rw [Int32.le_iff_toInt_le, ek]; omega), hk]
    · rw [if_neg (by rw [Int32.le_iff_toInt_le, ek]; omega)]
      rw [ast_in (by rw [ek]; omega), ek]
      simp only [nm_ap, bnd_ap, bns_ap, bnx_ap0, bnx_ap1, bnx_ap2, bnx_ap3, bnx_ap4, gz_0, gz_1, dvd_96, dvd_2, dvd_10000, rmd_96, rmd_8, xg_at, xg_0, mr_at, up_xg, up_mr, narz_0, narz_1, i10, i01, i11, i00, ↓reduceIte, e10, e01, e50, e51, e20, e60, e70, e30, e40, Classical.not_not, not_true_eq_false, not_false_eq_true, Int.toNat_natCast, p2_fr14, zz_s, oN1]
      exact ih (k + 1) (by omega) (by omega)
theorem x_day_l {σ : Sig} {n : Nat} {G : Gd} {x d : Int32} {f g : Nat → Int32} (hB : 0 ≤ (G 3 0).toInt ∧ (G 3 0).toInt ≤ 8) : ∀ (fu k : Nat), k ≤ (G 3 0).toInt.toNat → (G 3 0).toInt.toNat < fu + k → f0_beginDay_b2 n fu d (Int32.ofNat k) (xg σ n (fr G x f (yd G d k g))) = some (xg σ n (fr G x f (yd G d (G 3 0).toInt.toNat g))) := by
  intro fu
  induction fu with
  | zero => intro k h1 h2; omega
  | succ fu ih =>
    intro k h1 h2
    have ek := oN k (by omega)
    have i3 : fr G x f (yd G d k g) 3 = G 3 := fr_ne _ _ _ _ (by decide)
    rw [f0_beginDay_b2]
    simp only [nm_ap, bnd_ap, bns_ap, bnx_ap0, bnx_ap1, bnx_ap2, bnx_ap3, bnx_ap4, gz_0, gz_1, dvd_96, dvd_2, dvd_10000, rmd_96, rmd_8, xg_at, xg_0, mr_at, up_xg, up_mr, narz_0, narz_1, i10, i01, i11, i00, ↓reduceIte, e10, e01, e50, e51, e20, e60, e70, e30, e40, Classical.not_not, not_true_eq_false, not_false_eq_true, i3]
    by_cases hk : k = (G 3 0).toInt.toNat
    · rw [if_pos (by rw [Int32.le_iff_toInt_le, ek]; omega), hk]
    · rw [if_neg (by rw [Int32.le_iff_toInt_le, ek]; omega)]
      have q := ih (k + 1) (by omega) (by omega)
      unfold f0_beginDay_b38
      rw [x_season (by rw [ek]; omega)]
      simp only [nm_ap, bnd_ap, bns_ap, bnx_ap0, bnx_ap1, bnx_ap2, bnx_ap3, bnx_ap4, gz_0, gz_1, dvd_96, dvd_2, dvd_10000, rmd_96, rmd_8, xg_at, xg_0, mr_at, up_xg, up_mr, narz_0, narz_1, i10, i01, i11, i00, ↓reduceIte, e10, e01, e50, e51, e20, e60, e70, e30, e40, Classical.not_not, not_true_eq_false, not_false_eq_true, ek, Int.toNat_natCast, Se_fr, oN1]
      by_cases hs : Se G k d = 0
      · rw [if_pos hs, ← (yd_s G d k g).1 hs]
        exact q
      · rw [if_neg hs, ald_in (by rw [ek]; omega)]
        simp only [nm_ap, bnd_ap, bns_ap, bnx_ap0, bnx_ap1, bnx_ap2, bnx_ap3, bnx_ap4, gz_0, gz_1, dvd_96, dvd_2, dvd_10000, rmd_96, rmd_8, xg_at, xg_0, mr_at, up_xg, up_mr, narz_0, narz_1, i10, i01, i11, i00, ↓reduceIte, e10, e01, e50, e51, e20, e60, e70, e30, e40, Classical.not_not, not_true_eq_false, not_false_eq_true, ek, Int.toNat_natCast, fr_at12, yd_at]
        rw [ast_in (by rw [ek]; omega), ek]
        simp only [nm_ap, bnd_ap, bns_ap, bnx_ap0, bnx_ap1, bnx_ap2, bnx_ap3, bnx_ap4, gz_0, gz_1, dvd_96, dvd_2, dvd_10000, rmd_96, rmd_8, xg_at, xg_0, mr_at, up_xg, up_mr, narz_0, narz_1, i10, i01, i11, i00, ↓reduceIte, e10, e01, e50, e51, e20, e60, e70, e30, e40, Classical.not_not, not_true_eq_false, not_false_eq_true, Int.toNat_natCast, p2_fr12]
        rw [show (if g k + 3 < 50 then g k + 3 else 50) = bl3 (g k) from rfl, (yd_s G d k g).2 hs]
        exact q
def blm (G : Gd) (d0 : Nat) : Nat → Nat → Int32
  | 0 => G 12
  | k + 1 => yd G (Int32.ofNat (d0 + k + 1)) (G 3 0).toInt.toNat (blm G d0 k)
theorem Td_fr {G : Gd} {x : Int32} {f g : Nat → Int32} : Td (fr G x f g) = x / 96 := rfl
theorem x_days_l {σ : Sig} {n : Nat} {G : Gd} {x : Int32} {f : Nat → Int32} {d0 K : Nat} (hB : 0 ≤ (G 3 0).toInt ∧ (G 3 0).toInt ≤ 8) (hx : (x / 96).toInt = d0 + K) (hd : d0 + K < 1000) : ∀ (fu k : Nat), k ≤ K → K < fu + k → f4_letTicksPass_b32 n fu (Int32.ofNat (d0 + k + 1)) (xg σ n (fr G x f (blm G d0 k))) = some (xg σ n (fr G x f (blm G d0 K))) := by
  intro fu
  induction fu with
  | zero => intro k h1 h2; omega
  | succ fu ih =>
    intro k h1 h2
    have ek := oN (d0 + k + 1) (by omega)
    rw [f4_letTicksPass_b32, x_today, Td_fr]
    simp only [nm_ap, bnd_ap, bns_ap, bnx_ap0, bnx_ap1, bnx_ap2, bnx_ap3, bnx_ap4, gz_0, gz_1, dvd_96, dvd_2, dvd_10000, rmd_96, rmd_8, xg_at, xg_0, mr_at, up_xg, up_mr, narz_0, narz_1, i10, i01, i11, i00, ↓reduceIte, e10, e01, e50, e51, e20, e60, e70, e30, e40, Classical.not_not, not_true_eq_false, not_false_eq_true]
    by_cases hk : k = K
    · rw [if_pos (by rw [Int32.lt_iff_toInt_lt, ek, hx]; omega), hk]
    · rw [if_neg (by rw [Int32.lt_iff_toInt_lt, ek, hx]; omega)]
      have q := ih (k + 1) (by omega) (by omega)
      have z := x_day_l (σ := σ) (n := n) (G := G) (x := x) (d := Int32.ofNat (d0 + k + 1)) (f := f) (g := blm G d0 k) hB FU 0 (by omega) (by unfold FU; omega)
      rw [yd_0] at z
      unfold f0_beginDay
      rw [show (0 : Int32) = Int32.ofNat 0 from rfl, z]
      simp only [nm_ap, bnd_ap, bns_ap, bnx_ap0, bnx_ap1, bnx_ap2, bnx_ap3, bnx_ap4, gz_0, gz_1, dvd_96, dvd_2, dvd_10000, rmd_96, rmd_8, xg_at, xg_0, mr_at, up_xg, up_mr, narz_0, narz_1, i10, i01, i11, i00, ↓reduceIte, e10, e01, e50, e51, e20, e60, e70, e30, e40, Classical.not_not, not_true_eq_false, not_false_eq_true, oN1]
      exact q
def Gtk (G : Gd) (t : Int32) : Gd := fr G (G 1 0 + t) (zz (G 3 0).toInt.toNat (G 14)) (blm G (Td G).toInt.toNat (((G 1 0).toInt + t.toInt) / 96 - (G 1 0).toInt / 96).toNat)
theorem x_ticks {σ : Sig} {n : Nat} {G : Gd} (hi : Iv G) {t : Int32} (ht : 1 ≤ t.toInt ∧ (G 1 0).toInt + t.toInt ≤ 9599) : f4_letTicksPass n t (xg σ n G) = some (xg σ n (Gtk G t)) := by
  have h0 := hi.1
  have hd := Td_in hi
  have e : (G 1 0 + t).toInt = (G 1 0).toInt + t.toInt := tv_add rfl rfl (by omega)
  have ex : ((G 1 0 + t) / 96).toInt = ((G 1 0).toInt + t.toInt) / 96 := tv_div e rfl (by omega)
  have a := x_tick_l (σ := σ) (n := n) (G := G) (x := G 1 0 + t) (f := G 14) (g := G 12) (by omega) FU 0 (by omega) (by unfold FU; omega)
  have b := x_days_l (σ := σ) (n := n) (G := G) (x := G 1 0 + t) (f := zz (G 3 0).toInt.toNat (G 14)) (d0 := (Td G).toInt.toNat) (K := (((G 1 0).toInt + t.toInt) / 96 - (G 1 0).toInt / 96).toNat) (by omega) (by rw [ex]; omega) (by omega) FU 0 (by omega) (by unfold FU; omega)
  rw [zz_0] at a
  unfold f4_letTicksPass
  rw [x_today]
  simp only [nm_ap, bnd_ap, bns_ap, bnx_ap0, bnx_ap1, bnx_ap2, bnx_ap3, bnx_ap4, gz_0, gz_1, dvd_96, dvd_2, dvd_10000, rmd_96, rmd_8, xg_at, xg_0, mr_at, up_xg, up_mr, narz_0, narz_1, i10, i01, i11, i00, ↓reduceIte, e10, e01, e50, e51, e20, e60, e70, e30, e40, Classical.not_not, not_true_eq_false, not_false_eq_true]
  rw [show p2 G 1 0 (G 1 0 + t) = fr G (G 1 0 + t) (G 14) (G 12) by rw [← p2_fr1 G (G 1 0), fr_self]]
  unfold f0_beginTick
  rw [show (0 : Int32) = Int32.ofNat 0 from rfl, a]
  simp only [nm_ap, bnd_ap, bns_ap, bnx_ap0, bnx_ap1, bnx_ap2, bnx_ap3, bnx_ap4, gz_0, gz_1, dvd_96, dvd_2, dvd_10000, rmd_96, rmd_8, xg_at, xg_0, mr_at, up_xg, up_mr, narz_0, narz_1, i10, i01, i11, i00, ↓reduceIte, e10, e01, e50, e51, e20, e60, e70, e30, e40, Classical.not_not, not_true_eq_false, not_false_eq_true]
  rw [show Td G + 1 = Int32.ofNat ((Td G).toInt.toNat + 0 + 1) from by
    apply ti_ext
    rw [oN _ (by omega), tv_add rfl (show (1 : Int32).toInt = 1 from rfl) (by omega)]
    omega]
  exact b
theorem blm_in {G : Gd} (hi : Iv G) (d0 k : Nat) {b : Nat} (hb : (b : Int) < (G 3 0).toInt) : 0 ≤ (blm G d0 k b).toInt ∧ (blm G d0 k b).toInt ≤ 50 := by
  induction k with
  | zero => have := hi.b hb; rw [blm]; omega
  | succ k ih =>
    rw [blm]
    unfold yd
    split
    · exact bl3_in ih
    · exact ih
theorem iv_tk {G : Gd} (hi : Iv G) {t : Int32} (ht : 1 ≤ t.toInt ∧ (G 1 0).toInt + t.toInt ≤ 9599) : Iv (Gtk G t) := by
  have h0 := hi.1
  have e : (G 1 0 + t).toInt = (G 1 0).toInt + t.toInt := tv_add rfl rfl (by omega)
  have i : ∀ c, ¬ c = 1 ∧ ¬ c = 14 ∧ ¬ c = 12 → Gtk G t c = G c := fun c hc => fr_ne _ _ _ _ hc
  have i1 : Gtk G t 1 0 = G 1 0 + t := rfl
  have i14 : Gtk G t 14 = zz (G 3 0).toInt.toNat (G 14) := rfl
  have i12 : ∀ b : Nat, (b : Int) < (G 3 0).toInt → 0 ≤ (Gtk G t 12 b).toInt ∧ (Gtk G t 12 b).toInt ≤ 50 := fun b hb => blm_in hi _ _ hb
  have i0 := i 0 (by decide)
  have i2 := i 2 (by decide)
  have i3 := i 3 (by decide)
  have i4 := i 4 (by decide)
  have i5 := i 5 (by decide)
  have e0 : (0 : Int32).toInt = 0 := rfl
  refine ⟨?_, fun q9 hq9 => ?_, fun b9 hb9 => ?_, fun q9 hq9 => ?_, fun k9 hk9 => ?_, ?_⟩
  · rw [i0, i2, i3, i4, i5, i1]
    omega
  · rw [i2] at hq9
    rw [i 7 (by decide)]
    exact hi.2.1 q9 hq9
  · rw [i3] at hb9
    have hh := hi.b hb9
    have z : zz (G 3 0).toInt.toNat (G 14) b9 = 0 := if_pos (by omega)
    have y := i12 b9 hb9
    rw [i 9 (by decide), i 13 (by decide), i14, z, i1]
    omega
  · rw [i4] at hq9
    have hh := hi.p hq9
    rw [i 16 (by decide), i 17 (by decide), i 18 (by decide), i 19 (by decide), i 20 (by decide), i 21 (by decide), i 22 (by decide), i 23 (by decide), i 24 (by decide), i 25 (by decide), i 26 (by decide), i5, i3, i1]
    omega
  · rw [i5] at hk9
    rw [i 27 (by decide), i 28 (by decide), i4]
    exact hi.k hk9
  · rw [i4, i3, i 23 (by decide), i 13 (by decide)]
    exact hi.2.2.2.2.2
/-! the class alone, out of the whole check's mathematics -/
def AG (G H : Gd) : Prop :=
  (H 2 0 = G 2 0 ∧ H 3 0 = G 3 0 ∧ H 4 0 = G 4 0 ∧ H 5 0 = G 5 0 ∧ H 1 0 = G 1 0 ∧ H 2 1 = G 2 1 ∧ H 0 6 = G 0 6 ∧ H 1 1 = G 1 1 ∧ H 1 2 = G 1 2 ∧ H 6 0 = G 6 0 ∧ H 6 1 = G 6 1 ∧ H 6 2 = G 6 2 ∧ H 6 3 = G 6 3 ∧ H 6 4 = G 6 4 ∧ H 6 5 = G 6 5)
  ∧ (∀ i : Nat, (i : Int) < (G 2 0).toInt → H 7 i = G 7 i)
  ∧ (∀ b : Nat, (b : Int) < (G 3 0).toInt → H 8 b = G 8 b ∧ H 9 b = G 9 b ∧ H 10 b = G 10 b ∧ H 11 b = G 11 b ∧ H 12 b = G 12 b ∧ H 13 b = G 13 b ∧ H 14 b = G 14 b)
  ∧ (∀ p : Nat, (p : Int) < (G 4 0).toInt → H 15 p = G 15 p ∧ H 16 p = G 16 p ∧ H 17 p = G 17 p ∧ H 18 p = G 18 p ∧ H 19 p = G 19 p ∧ H 20 p = G 20 p ∧ H 21 p = G 21 p ∧ H 22 p = G 22 p ∧ H 23 p = G 23 p ∧ H 24 p = G 24 p ∧ H 25 p = G 25 p ∧ H 26 p = G 26 p)
  ∧ (∀ k : Nat, (k : Int) < (G 5 0).toInt → H 27 k = G 27 k ∧ H 28 k = G 28 k)
theorem AG.s0 {G H : Gd} (h : AG G H) : H 2 0 = G 2 0 := h.1.1
theorem AG.s1 {G H : Gd} (h : AG G H) : H 3 0 = G 3 0 := h.1.2.1
theorem AG.s2 {G H : Gd} (h : AG G H) : H 4 0 = G 4 0 := h.1.2.2.1
theorem AG.s3 {G H : Gd} (h : AG G H) : H 5 0 = G 5 0 := h.1.2.2.2.1
theorem AG.s4 {G H : Gd} (h : AG G H) : H 1 0 = G 1 0 := h.1.2.2.2.2.1
theorem AG.s5 {G H : Gd} (h : AG G H) : H 2 1 = G 2 1 := h.1.2.2.2.2.2.1
theorem AG.s6 {G H : Gd} (h : AG G H) : H 0 6 = G 0 6 := h.1.2.2.2.2.2.2.1
theorem AG.s7 {G H : Gd} (h : AG G H) : H 1 1 = G 1 1 := h.1.2.2.2.2.2.2.2.1
theorem AG.s8 {G H : Gd} (h : AG G H) : H 1 2 = G 1 2 := h.1.2.2.2.2.2.2.2.2.1
theorem AG.s9 {G H : Gd} (h : AG G H) : H 6 0 = G 6 0 := h.1.2.2.2.2.2.2.2.2.2.1
theorem AG.s10 {G H : Gd} (h : AG G H) : H 6 1 = G 6 1 := h.1.2.2.2.2.2.2.2.2.2.2.1
theorem AG.s11 {G H : Gd} (h : AG G H) : H 6 2 = G 6 2 := h.1.2.2.2.2.2.2.2.2.2.2.2.1
theorem AG.s12 {G H : Gd} (h : AG G H) : H 6 3 = G 6 3 := h.1.2.2.2.2.2.2.2.2.2.2.2.2.1
theorem AG.s13 {G H : Gd} (h : AG G H) : H 6 4 = G 6 4 := h.1.2.2.2.2.2.2.2.2.2.2.2.2.2.1
theorem AG.s14 {G H : Gd} (h : AG G H) : H 6 5 = G 6 5 := h.1.2.2.2.2.2.2.2.2.2.2.2.2.2.2
theorem Iv.ag {G H : Gd} (h : Iv G) (a : AG G H) : Iv H := by
  have h0 := h.1
  refine ⟨?_, fun i hi => ?_, fun b hb => ?_, fun p hp => ?_, fun k hk => ?_, ?_⟩
  · simp only [a.s0, a.s1, a.s2, a.s3, a.s4, a.s5, a.s6, a.s7, a.s8, a.s9, a.s10, a.s11, a.s12, a.s13, a.s14]; exact h.1
  · rw [a.s0] at hi
    rw [a.2.1 i hi]; exact h.2.1 i hi
  · rw [a.s1] at hb
    have q := a.2.2.1 b hb
    simp only [q, a.s4]; exact h.b hb
  · rw [a.s2] at hp
    have q := a.2.2.2.1 p hp
    have hh := h.p hp
    simp only [q, a.s4, a.s3, a.s1]
    by_cases e : 0 ≤ (G 25 p).toInt
    · have q2 := a.2.2.1 (G 25 p).toInt.toNat (by omega)
      simp only [q2]; exact hh
    · have : ¬ (G 24 p).toInt = (G 1 0).toInt := by omega
      omega
  · rw [a.s3] at hk
    have q := a.2.2.2.2 k hk
    simp only [q, a.s2]; exact h.k hk
  · rw [a.s2, a.s1]
    rw [sm_congr (f := H 23) (g := G 23) (fun p hp => (a.2.2.2.1 p (by omega)).2.2.2.2.2.2.2.2.1), sm_congr (f := H 13) (g := G 13) (fun b hb => (a.2.2.1 b (by omega)).2.2.2.2.2.1)]
    exact h.2.2.2.2.2
theorem acp_in {β : Type} {σ : Sig} {g c n g' c' n' : Nat} {k : Int32} {f : Sig → Option β} (h : 0 ≤ k.toInt ∧ k.toInt ≤ n ∧ k.toInt ≤ n') : acp σ g c n g' c' n' 0 0 k f = f (ur σ g' c' (va_cpy (σ g c) (σ g' c') 0 0 k.toInt.toNat)) := by
  unfold acp
  rw [if_neg]
  · rfl
  · rw [show k.toNatClampNeg = k.toInt.toNat from rfl, show (0 : Int32).toNatClampNeg = 0 from rfl, Int32.lt_iff_toInt_lt, Int32.lt_iff_toInt_lt]
    have e0 : (0 : Int32).toInt = 0 := rfl
    omega
theorem cpy_lt (f g : Nat → Int32) {n k : Nat} (h : k < n) : va_cpy f g 0 0 n k = f k := by
  unfold va_cpy
  rw [if_pos ⟨by omega, by omega⟩]
  congr 1
  omega
theorem xg_blk {σ : Sig} {n n1 : Nat} (G : Gd) (c : Nat) (h : ¬ n1 = n) : xg σ n G (n1 + 1) c = σ (n1 + 1) c := xg_ne σ G c (by omega)
def cpl (k : Nat) (f g : Nat → Int32) : Nat → Int32 := fun i => if i < k then f i else g i
theorem cpl_0 (f g : Nat → Int32) : cpl 0 f g = g := by funext i; unfold cpl; rw [if_neg (by omega)]
theorem cpl_s (k : Nat) (f g : Nat → Int32) : upd (cpl k f g) k (f k) = cpl (k + 1) f g := by
  funext i
  unfold upd cpl
  by_cases h : i = k
  · rw [if_pos h, if_pos (by omega), h]
  · rw [if_neg h]
    by_cases h2 : i < k
    · rw [if_pos h2, if_pos (by omega)]
    · rw [if_neg h2, if_neg (by omega)]
theorem cpl_lt {k : Nat} (f g : Nat → Int32) {i : Nat} (h : i < k) : cpl k f g i = f i := if_pos h
theorem pr_self (G : Gd) (c : Nat) : pr G c (G c) = G := by
  funext c'
  unfold pr
  split
  · rename_i h; rw [h]
  · rfl
theorem p2_pr (G : Gd) (c : Nat) (f : Nat → Int32) (k : Nat) (v : Int32) : p2 (pr G c f) c k v = pr G c (upd f k v) := by
  funext c'
  unfold p2 pr
  by_cases h : c' = c
  · rw [if_pos h, if_pos h, if_pos rfl]
  · rw [if_neg h, if_neg h, if_neg h]
theorem x_ret_l {σ : Sig} {n n1 : Nat} {H : Gd} (hn : ¬ n1 = n) (hN : 0 ≤ (H 4 0).toInt ∧ (H 4 0).toInt ≤ 30) (hz : ∀ i : Nat, (i : Int) < (H 4 0).toInt → σ (n1 + 1) 21 i = 0 ∨ σ (n1 + 1) 21 i = 1) : ∀ (fu k : Nat), k ≤ (H 4 0).toInt.toNat → (H 4 0).toInt.toNat < fu + k → f7_copyFrom_b197 n n1 fu (Int32.ofNat k) (xg σ n (pr H 21 (cpl k (σ (n1 + 1) 21) (H 21)))) = some (xg σ n (pr H 21 (cpl (H 4 0).toInt.toNat (σ (n1 + 1) 21) (H 21)))) := by
  intro fu
  induction fu with
  | zero => intro k h1 h2; omega
  | succ fu ih =>
    intro k h1 h2
    have ek := oN k (by omega)
    rw [f7_copyFrom_b197]
    simp only [nm_ap, bnd_ap, bns_ap, bnx_ap0, bnx_ap1, bnx_ap2, bnx_ap3, bnx_ap4, gz_0, gz_1, dvd_96, dvd_2, dvd_10000, rmd_96, rmd_8, xg_at, xg_0, mr_at, up_xg, up_mr, narz_0, narz_1, i10, i01, i11, i00, ↓reduceIte, e10, e01, e50, e51, e20, e60, e70, e30, e40, Classical.not_not, not_true_eq_false, not_false_eq_true, pr_ne H (cpl k (σ (n1 + 1) 21) (H 21)) (show ¬ 4 = 21 by decide), xg_blk _ _ hn]
    by_cases hk : k = (H 4 0).toInt.toNat
    · rw [if_pos (by rw [Int32.le_iff_toInt_le, ek]; omega), hk]
    · rw [if_neg (by rw [Int32.le_iff_toInt_le, ek]; omega), ald_in (by rw [ek]; omega), ek]
      simp only [Int.toNat_natCast]
      rw [narz_ok (hz k (by omega)), ast_in (by rw [ek]; omega), ek]
      simp only [Int.toNat_natCast, nm_ap, bnd_ap, bns_ap, bnx_ap0, bnx_ap1, bnx_ap2, bnx_ap3, bnx_ap4, gz_0, gz_1, dvd_96, dvd_2, dvd_10000, rmd_96, rmd_8, xg_at, xg_0, mr_at, up_xg, up_mr, narz_0, narz_1, i10, i01, i11, i00, ↓reduceIte, e10, e01, e50, e51, e20, e60, e70, e30, e40, Classical.not_not, not_true_eq_false, not_false_eq_true, p2_pr, cpl_s, oN1]
      exact ih (k + 1) (by omega) (by omega)
theorem x_blk_l {σ : Sig} {n n1 : Nat} {H : Gd} (hn : ¬ n1 = n) (hN : 0 ≤ (H 5 0).toInt ∧ (H 5 0).toInt ≤ 50) (hz : ∀ i : Nat, (i : Int) < (H 5 0).toInt → σ (n1 + 1) 28 i = 0 ∨ σ (n1 + 1) 28 i = 1) : ∀ (fu k : Nat), k ≤ (H 5 0).toInt.toNat → (H 5 0).toInt.toNat < fu + k → f2_copyFrom_b27 n n1 fu (Int32.ofNat k) (xg σ n (pr H 28 (cpl k (σ (n1 + 1) 28) (H 28)))) = some (xg σ n (pr H 28 (cpl (H 5 0).toInt.toNat (σ (n1 + 1) 28) (H 28)))) := by
  intro fu
  induction fu with
  | zero => intro k h1 h2; omega
  | succ fu ih =>
    intro k h1 h2
    have ek := oN k (by omega)
    rw [f2_copyFrom_b27]
    simp only [nm_ap, bnd_ap, bns_ap, bnx_ap0, bnx_ap1, bnx_ap2, bnx_ap3, bnx_ap4, gz_0, gz_1, dvd_96, dvd_2, dvd_10000, rmd_96, rmd_8, xg_at, xg_0, mr_at, up_xg, up_mr, narz_0, narz_1, i10, i01, i11, i00, ↓reduceIte, e10, e01, e50, e51, e20, e60, e70, e30, e40, Classical.not_not, not_true_eq_false, not_false_eq_true, pr_ne H (cpl k (σ (n1 + 1) 28) (H 28)) (show ¬ 5 = 28 by decide), xg_blk _ _ hn]
    by_cases hk : k = (H 5 0).toInt.toNat
    · rw [if_pos (by rw [Int32.le_iff_toInt_le, ek]; omega), hk]
    · rw [if_neg (by rw [Int32.le_iff_toInt_le, ek]; omega), ald_in (by rw [ek]; omega), ek]
      simp only [Int.toNat_natCast]
      rw [narz_ok (hz k (by omega)), ast_in (by rw [ek]; omega), ek]
      simp only [Int.toNat_natCast, nm_ap, bnd_ap, bns_ap, bnx_ap0, bnx_ap1, bnx_ap2, bnx_ap3, bnx_ap4, gz_0, gz_1, dvd_96, dvd_2, dvd_10000, rmd_96, rmd_8, xg_at, xg_0, mr_at, up_xg, up_mr, narz_0, narz_1, i10, i01, i11, i00, ↓reduceIte, e10, e01, e50, e51, e20, e60, e70, e30, e40, Classical.not_not, not_true_eq_false, not_false_eq_true, p2_pr, cpl_s, oN1]
      exact ih (k + 1) (by omega) (by omega)
theorem b01 {x : Int32} (h : 0 ≤ x.toInt ∧ x.toInt ≤ 1) : x = 0 ∨ x = 1 := by
  rcases (show x.toInt = 0 ∨ x.toInt = 1 by omega) with q | q
  · left; exact ti_ext (by rw [q]; rfl)
  · right; exact ti_ext (by rw [q]; rfl)
theorem pr_if (G : Gd) (c : Nat) (f : Nat → Int32) (c' : Nat) : pr G c f c' = if c' = c then f else G c' := rfl
theorem cp3 {σ : Sig} {n n1 : Nat} {G H : Gd} (hn : ¬ n1 = n) (r0 : ∀ c, σ (n1 + 1) c = G c) : ∃ H', f3_copyFrom n n1 (xg σ n H) = some (xg σ n H') ∧ (∀ c, ¬ c = 1 → H' c = H c) ∧ H' 1 0 = G 1 0 ∧ H' 1 1 = G 1 1 ∧ H' 1 2 = G 1 2 := by
  unfold f3_copyFrom f3_letPeacocksWalk
  simp only [nm_ap, bnd_ap, bns_ap, bnx_ap0, bnx_ap1, bnx_ap2, bnx_ap3, bnx_ap4, gz_0, gz_1, dvd_96, dvd_2, dvd_10000, rmd_96, rmd_8, xg_at, xg_0, mr_at, up_xg, up_mr, narz_0, narz_1, i10, i01, i11, i00, ↓reduceIte, e10, e01, e50, e51, e20, e60, e70, e30, e40, Classical.not_not, not_true_eq_false, not_false_eq_true, xg_blk _ _ hn, r0]
  refine ⟨_, rfl, fun c h => ?_, ?_, ?_, ?_⟩
  · simp (disch := omega) only [upd_at, upd_ne, p2_at, p2_ne]
  · simp (disch := omega) only [upd_at, upd_ne, p2_at, p2_ne]
  · simp (disch := omega) only [upd_at, upd_ne, p2_at, p2_ne]
  · simp (disch := omega) only [upd_at, upd_ne, p2_at, p2_ne]
theorem cp10 {σ : Sig} {n n1 : Nat} {G H : Gd} (hn : ¬ n1 = n) (r0 : ∀ c, σ (n1 + 1) c = G c) (hs : 0 ≤ (G 2 0).toInt ∧ (G 2 0).toInt ≤ ((5 : Nat) : Int) ∧ (G 2 0).toInt ≤ ((5 : Nat) : Int)) : ∃ H', f10_copyFrom n n1 (xg σ n H) = some (xg σ n H') ∧ (∀ c, ¬ c = 2 → ¬ c = 7 → H' c = H c) ∧ H' 2 0 = G 2 0 ∧ H' 2 1 = G 2 1 ∧ ∀ i : Nat, (i : Int) < (G 2 0).toInt → H' 7 i = G 7 i := by
  unfold f10_copyFrom
  simp only [nm_ap, bnd_ap, bns_ap, bnx_ap0, bnx_ap1, bnx_ap2, bnx_ap3, bnx_ap4, gz_0, gz_1, dvd_96, dvd_2, dvd_10000, rmd_96, rmd_8, xg_at, xg_0, mr_at, up_xg, up_mr, narz_0, narz_1, i10, i01, i11, i00, ↓reduceIte, e10, e01, e50, e51, e20, e60, e70, e30, e40, Classical.not_not, not_true_eq_false, not_false_eq_true, xg_blk _ _ hn, r0, p2_if, pr_if, Nat.reduceEqDiff, ↓reduceIte, upd, acp_in hs, ur_xg]
  refine ⟨_, rfl, fun c h1 h2 => ?_, ?_, ?_, fun i hi => ?_⟩
  · simp only [pr_if, p2_if, h1, h2, if_false]
  · rfl
  · rfl
  · simp only [pr_if, if_true]
    rw [cpy_lt _ _ (by omega)]
theorem cp0 {σ : Sig} {n n1 : Nat} {G H : Gd} (hn : ¬ n1 = n) (r0 : ∀ c, σ (n1 + 1) c = G c) (hs : 0 ≤ (G 3 0).toInt ∧ (G 3 0).toInt ≤ ((8 : Nat) : Int) ∧ (G 3 0).toInt ≤ ((8 : Nat) : Int)) : ∃ H', f0_copyFrom n n1 (xg σ n H) = some (xg σ n H') ∧ (∀ c, ¬ c = 3 → ¬ (8 ≤ c ∧ c ≤ 14) → H' c = H c) ∧ H' 3 0 = G 3 0 ∧ ∀ b : Nat, (b : Int) < (G 3 0).toInt → H' 8 b = G 8 b ∧ H' 9 b = G 9 b ∧ H' 10 b = G 10 b ∧ H' 11 b = G 11 b ∧ H' 12 b = G 12 b ∧ H' 13 b = G 13 b ∧ H' 14 b = G 14 b := by
  unfold f0_copyFrom
  simp only [nm_ap, bnd_ap, bns_ap, bnx_ap0, bnx_ap1, bnx_ap2, bnx_ap3, bnx_ap4, gz_0, gz_1, dvd_96, dvd_2, dvd_10000, rmd_96, rmd_8, xg_at, xg_0, mr_at, up_xg, up_mr, narz_0, narz_1, i10, i01, i11, i00, ↓reduceIte, e10, e01, e50, e51, e20, e60, e70, e30, e40, Classical.not_not, not_true_eq_false, not_false_eq_true, xg_blk _ _ hn, r0, p2_if, pr_if, Nat.reduceEqDiff, ↓reduceIte, upd, acp_in hs, ur_xg]
  refine ⟨_, rfl, fun c h1 h2 => ?_, ?_, fun i hi => ?_⟩
  · rw [pr_ne _ _ (by omega), pr_ne _ _ (by omega), pr_ne _ _ (by omega), pr_ne _ _ (by omega), pr_ne _ _ (by omega), pr_ne _ _ (by omega), pr_ne _ _ (by omega), p2_ne _ _ _ (by omega)]
  · rfl
  · simp only [pr_if, Nat.reduceEqDiff, ↓reduceIte]
    simp only [cpy_lt _ _ (show i < (G 3 0).toInt.toNat by omega), and_self]
theorem cp7 {σ : Sig} {n n1 : Nat} {G H : Gd} (hn : ¬ n1 = n) (r0 : ∀ c, σ (n1 + 1) c = G c) (hs : 0 ≤ (G 4 0).toInt ∧ (G 4 0).toInt ≤ ((30 : Nat) : Int) ∧ (G 4 0).toInt ≤ ((30 : Nat) : Int)) (hz : ∀ i : Nat, (i : Int) < (G 4 0).toInt → G 21 i = 0 ∨ G 21 i = 1) : ∃ H', f7_copyFrom n n1 (xg σ n H) = some (xg σ n H') ∧ (∀ c, ¬ c = 4 → ¬ (15 ≤ c ∧ c ≤ 26) → H' c = H c) ∧ H' 4 0 = G 4 0 ∧ ∀ p : Nat, (p : Int) < (G 4 0).toInt → H' 15 p = G 15 p ∧ H' 16 p = G 16 p ∧ H' 17 p = G 17 p ∧ H' 18 p = G 18 p ∧ H' 19 p = G 19 p ∧ H' 20 p = G 20 p ∧ H' 21 p = G 21 p ∧ H' 22 p = G 22 p ∧ H' 23 p = G 23 p ∧ H' 24 p = G 24 p ∧ H' 25 p = G 25 p ∧ H' 26 p = G 26 p := by
  have key : ∀ F : Gd, F 4 0 = G 4 0 → f7_copyFrom_b197 n n1 FU 0 (xg σ n F) = some (xg σ n (pr F 21 (cpl (G 4 0).toInt.toNat (G 21) (F 21)))) := by
    intro F hF
    have q := x_ret_l (σ := σ) (H := F) hn (by rw [hF]; omega) (fun i hi => by rw [r0]; exact hz i (by rw [← hF]; exact hi)) FU 0 (by omega) (by rw [hF]; unfold FU; omega)
    rw [cpl_0, pr_self, hF, r0] at q
    exact q
  unfold f7_copyFrom
  simp only [nm_ap, bnd_ap, bns_ap, bnx_ap0, bnx_ap1, bnx_ap2, bnx_ap3, bnx_ap4, gz_0, gz_1, dvd_96, dvd_2, dvd_10000, rmd_96, rmd_8, xg_at, xg_0, mr_at, up_xg, up_mr, narz_0, narz_1, i10, i01, i11, i00, ↓reduceIte, e10, e01, e50, e51, e20, e60, e70, e30, e40, Classical.not_not, not_true_eq_false, not_false_eq_true, xg_blk _ _ hn, r0, p2_if, pr_if, Nat.reduceEqDiff, ↓reduceIte, upd, acp_in hs, ur_xg]
  rw [key _ (by simp only [p2_if, pr_if, Nat.reduceEqDiff, ↓reduceIte, upd])]
  refine ⟨_, rfl, fun c h1 h2 => ?_, ?_, fun i hi => ?_⟩
  · rw [pr_ne _ _ (by omega), pr_ne _ _ (by omega), pr_ne _ _ (by omega), pr_ne _ _ (by omega), pr_ne _ _ (by omega), pr_ne _ _ (by omega), pr_ne _ _ (by omega), pr_ne _ _ (by omega), pr_ne _ _ (by omega), pr_ne _ _ (by omega), pr_ne _ _ (by omega), pr_ne _ _ (by omega), p2_ne _ _ _ (by omega)]
  · rfl
  · simp only [pr_if, Nat.reduceEqDiff, ↓reduceIte]
    simp only [cpy_lt _ _ (show i < (G 4 0).toInt.toNat by omega), cpl_lt _ _ (show i < (G 4 0).toInt.toNat by omega), and_self]
theorem cp2 {σ : Sig} {n n1 : Nat} {G H : Gd} (hn : ¬ n1 = n) (r0 : ∀ c, σ (n1 + 1) c = G c) (hs : 0 ≤ (G 5 0).toInt ∧ (G 5 0).toInt ≤ ((50 : Nat) : Int) ∧ (G 5 0).toInt ≤ ((50 : Nat) : Int)) (hz : ∀ i : Nat, (i : Int) < (G 5 0).toInt → G 28 i = 0 ∨ G 28 i = 1) : ∃ H', f2_copyFrom n n1 (xg σ n H) = some (xg σ n H') ∧ (∀ c, ¬ c = 5 → ¬ c = 27 → ¬ c = 28 → H' c = H c) ∧ H' 5 0 = G 5 0 ∧ ∀ k : Nat, (k : Int) < (G 5 0).toInt → H' 27 k = G 27 k ∧ H' 28 k = G 28 k := by
  have key : ∀ F : Gd, F 5 0 = G 5 0 → f2_copyFrom_b27 n n1 FU 0 (xg σ n F) = some (xg σ n (pr F 28 (cpl (G 5 0).toInt.toNat (G 28) (F 28)))) := by
    intro F hF
    have q := x_blk_l (σ := σ) (H := F) hn (by rw [hF]; omega) (fun i hi => by rw [r0]; exact hz i (by rw [← hF]; exact hi)) FU 0 (by omega) (by rw [hF]; unfold FU; omega)
    rw [cpl_0, pr_self, hF, r0] at q
    exact q
  unfold f2_copyFrom
  simp only [nm_ap, bnd_ap, bns_ap, bnx_ap0, bnx_ap1, bnx_ap2, bnx_ap3, bnx_ap4, gz_0, gz_1, dvd_96, dvd_2, dvd_10000, rmd_96, rmd_8, xg_at, xg_0, mr_at, up_xg, up_mr, narz_0, narz_1, i10, i01, i11, i00, ↓reduceIte, e10, e01, e50, e51, e20, e60, e70, e30, e40, Classical.not_not, not_true_eq_false, not_false_eq_true, xg_blk _ _ hn, r0, p2_if, pr_if, Nat.reduceEqDiff, ↓reduceIte, upd, acp_in hs, ur_xg]
  rw [key _ (by simp only [p2_if, pr_if, Nat.reduceEqDiff, ↓reduceIte, upd])]
  refine ⟨_, rfl, fun c h1 h2 h3 => ?_, ?_, fun i hi => ?_⟩
  · rw [pr_ne _ _ (by omega), pr_ne _ _ (by omega), p2_ne _ _ _ (by omega)]
  · rfl
  · simp only [pr_if, Nat.reduceEqDiff, ↓reduceIte]
    simp only [cpy_lt _ _ (show i < (G 5 0).toInt.toNat by omega), cpl_lt _ _ (show i < (G 5 0).toInt.toNat by omega), and_self]
theorem cp1 {σ : Sig} {n n1 : Nat} {G H : Gd} (hn : ¬ n1 = n) (r0 : ∀ c, σ (n1 + 1) c = G c) : ∃ H', f1_copyFrom n n1 (xg σ n H) = some (xg σ n H') ∧ (∀ c, ¬ c = 6 → H' c = H c) ∧ H' 6 0 = G 6 0 ∧ H' 6 1 = G 6 1 ∧ H' 6 2 = G 6 2 ∧ H' 6 3 = G 6 3 ∧ H' 6 4 = G 6 4 ∧ H' 6 5 = G 6 5 := by
  unfold f1_copyFrom
  simp only [nm_ap, bnd_ap, bns_ap, bnx_ap0, bnx_ap1, bnx_ap2, bnx_ap3, bnx_ap4, gz_0, gz_1, dvd_96, dvd_2, dvd_10000, rmd_96, rmd_8, xg_at, xg_0, mr_at, up_xg, up_mr, narz_0, narz_1, i10, i01, i11, i00, ↓reduceIte, e10, e01, e50, e51, e20, e60, e70, e30, e40, Classical.not_not, not_true_eq_false, not_false_eq_true, xg_blk _ _ hn, r0]
  refine ⟨_, rfl, fun c h => ?_, ?_, ?_, ?_, ?_, ?_, ?_⟩
  all_goals simp (disch := omega) only [upd_at, upd_ne, p2_at, p2_ne]
theorem x_copy {σ : Sig} {n n1 : Nat} {G H : Gd} (hn : ¬ n1 = n) (hG : σ (n1 + 1) = G) (hi : Iv G) : ∃ H', f4_copyFrom n n1 (xg σ n H) = some (xg σ n H') ∧ AG G H' := by
  have h0 := hi.1
  have r0 : ∀ c, σ (n1 + 1) c = G c := fun c => by rw [hG]
  obtain ⟨H1, q1, a1, b1, c1, d1⟩ := cp3 (σ := σ) (H := H) hn r0
  obtain ⟨H2, q2, a2, b2, c2, d2⟩ := cp10 (σ := σ) (H := H1) hn r0 (by omega)
  obtain ⟨H3, q3, a3, b3, c3⟩ := cp0 (σ := σ) (H := H2) hn r0 (by omega)
  obtain ⟨H4, q4, a4, b4, c4⟩ := cp7 (σ := σ) (H := H3) hn r0 (by omega) (fun i hi' => b01 (by have := hi.p hi'; omega))
  obtain ⟨H5, q5, a5, b5, c5⟩ := cp2 (σ := σ) (H := H4) hn r0 (by omega) (fun i hi' => b01 (by have := hi.k hi'; omega))
  obtain ⟨H6, q6, a6, b6⟩ := cp1 (σ := σ) (H := H5) hn r0
  unfold f4_copyFrom
  rw [q1, bnd_ap, q2, bnd_ap, q3, bnd_ap, q4, bnd_ap, q5, bnd_ap, q6]
  simp only [nm_ap, bnd_ap, bns_ap, bnx_ap0, bnx_ap1, bnx_ap2, bnx_ap3, bnx_ap4, gz_0, gz_1, dvd_96, dvd_2, dvd_10000, rmd_96, rmd_8, xg_at, xg_0, mr_at, up_xg, up_mr, narz_0, narz_1, i10, i01, i11, i00, ↓reduceIte, e10, e01, e50, e51, e20, e60, e70, e30, e40, Classical.not_not, not_true_eq_false, not_false_eq_true, xg_blk _ _ hn, r0]
  refine ⟨_, rfl, ⟨?_, ?_, ?_, ?_, ?_, ?_, ?_, ?_, ?_, ?_⟩, fun i hi => ?_, fun b hb => ?_, fun p hp => ?_, fun k hk => ?_⟩
  · rw [p2_ne _ _ _ (by decide), a6 _ (by decide), a5 _ (by decide) (by decide) (by decide), a4 _ (by decide) (by decide), a3 _ (by decide) (by decide), b2]
  · rw [p2_ne _ _ _ (by decide), a6 _ (by decide), a5 _ (by decide) (by decide) (by decide), a4 _ (by decide) (by decide), b3]
  · rw [p2_ne _ _ _ (by decide), a6 _ (by decide), a5 _ (by decide) (by decide) (by decide), b4]
  · rw [p2_ne _ _ _ (by decide), a6 _ (by decide), b5]
  · rw [p2_ne _ _ _ (by decide), a6 _ (by decide), a5 _ (by decide) (by decide) (by decide), a4 _ (by decide) (by decide), a3 _ (by decide) (by decide), a2 _ (by decide) (by decide), b1]
  · rw [p2_ne _ _ _ (by decide), a6 _ (by decide), a5 _ (by decide) (by decide) (by decide), a4 _ (by decide) (by decide), a3 _ (by decide) (by decide), c2]
  · rw [p2_at, upd_at]
  · rw [p2_ne _ _ _ (by decide), a6 _ (by decide), a5 _ (by decide) (by decide) (by decide), a4 _ (by decide) (by decide), a3 _ (by decide) (by decide), a2 _ (by decide) (by decide), c1]
  · rw [p2_ne _ _ _ (by decide), a6 _ (by decide), a5 _ (by decide) (by decide) (by decide), a4 _ (by decide) (by decide), a3 _ (by decide) (by decide), a2 _ (by decide) (by decide), d1]
  · rw [p2_ne _ _ _ (by decide)]; exact b6
  · rw [p2_ne _ _ _ (by decide), a6 _ (by decide), a5 _ (by decide) (by decide) (by decide), a4 _ (by decide) (by decide), a3 _ (by decide) (by decide)]; exact d2 i hi
  · have w : ∀ c, 8 ≤ c → c ≤ 14 → p2 H6 0 6 (G 0 6) c = H3 c := fun c h1 h2 => by rw [p2_ne _ _ _ (by omega), a6 _ (by omega), a5 _ (by omega) (by omega) (by omega), a4 _ (by omega) (by omega)]
    simp (disch := omega) only [w]; exact c3 b hb
  · have w : ∀ c, 15 ≤ c → c ≤ 26 → p2 H6 0 6 (G 0 6) c = H4 c := fun c h1 h2 => by rw [p2_ne _ _ _ (by omega), a6 _ (by omega), a5 _ (by omega) (by omega) (by omega)]
    simp (disch := omega) only [w]; exact c4 p hp
  · have w : ∀ c, 27 ≤ c → c ≤ 28 → p2 H6 0 6 (G 0 6) c = H5 c := fun c h1 h2 => by rw [p2_ne _ _ _ (by omega), a6 _ (by omega)]
    simp (disch := omega) only [w]; exact c5 k hk
/-! the class alone, out of the whole check's mathematics -/
theorem rm8 {x : Nat} (hx : x < 16) : (Int32.ofNat x - Int32.ofNat x / 8 * 8) = Int32.ofNat (x % 8) := by
  have : ∀ x : Fin 16, (Int32.ofNat x.1 - Int32.ofNat x.1 / 8 * 8) = Int32.ofNat (x.1 % 8) := by decide +kernel
  exact this ⟨x, hx⟩
theorem min8 {c : Nat} (hc : c ≤ 8) : (if Int32.ofNat c + 1 < 8 then Int32.ofNat c + 1 else (8 : Int32)) = Int32.ofNat (min (c + 1) 8) := by
  have : ∀ x : Fin 9, (if Int32.ofNat x.1 + 1 < 8 then Int32.ofNat x.1 + 1 else (8 : Int32)) = Int32.ofNat (min (x.1 + 1) 8) := by decide +kernel
  exact this ⟨c, by omega⟩
theorem nm_eq {α β : Type} (a : α) (f : α → β) : nm a f = f a := by
  unfold nm
  exact rfl
/-! the class alone, out of the whole check's mathematics -/
def bt (x y : Int32) : Prop := (0 ≤ y.toInt ∧ y.toInt ≤ 127 ∧ x = y) ∨ (128 ≤ y.toInt ∧ y.toInt ≤ 255 ∧ x.toInt = y.toInt - 256)
theorem x_range (v lo hi : Int32) (σ : Sig) : f11_requireRange v lo hi σ = if lo.toInt ≤ v.toInt ∧ v.toInt ≤ hi.toInt then some (0, 0, σ) else some (1, 0, σ) := by
  unfold f11_requireRange f11_requireRange_b10
  simp only [Int32.lt_iff_toInt_lt, Int32.le_iff_toInt_le, ← Int32.toInt_inj, Int32.reduceToInt, Int.reduceEq, Int.reduceLT, Int.reduceLE, Int.reduceNeg, ↓reduceIte, not_true_eq_false, not_false_eq_true]
  repeat' split
  all_goals first | rfl | (exfalso; omega)
theorem x_state (v : Int32) (σ : Sig) : f11_requireState v σ = if v = 0 then some (3, 0, σ) else some (0, 0, σ) := rfl
theorem x_pass (v : Int32) (σ : Sig) (G : Gd) : f11_requirePass v (xg σ 8 G) = if 0 ≤ v.toInt ∧ v.toInt < (G 4 0).toInt then some (0, 0, xg σ 8 G) else some (2, 0, xg σ 8 G) := by
  unfold f11_requirePass
  rw [x_has7]
  simp only [nm_ap, bnd_ap, bns_ap, bnx_ap0, bnx_ap1, bnx_ap2, bnx_ap3, bnx_ap4, gz_0, gz_1, dvd_96, dvd_2, dvd_10000, rmd_96, rmd_8, xg_at, xg_0, mr_at, up_xg, up_mr, narz_0, narz_1, i10, i01, i11, i00, ↓reduceIte, e10, e01, e50, e51, e20, e60, e70, e30, e40, Classical.not_not, not_true_eq_false, not_false_eq_true]
  repeat' split
  all_goals first | rfl | (exfalso; omega)
theorem x_bedq (v : Int32) (σ : Sig) (G : Gd) : f11_requireBed v (xg σ 8 G) = if 0 ≤ v.toInt ∧ v.toInt < (G 3 0).toInt then some (0, 0, xg σ 8 G) else some (2, 0, xg σ 8 G) := by
  unfold f11_requireBed
  rw [x_has0]
  simp only [nm_ap, bnd_ap, bns_ap, bnx_ap0, bnx_ap1, bnx_ap2, bnx_ap3, bnx_ap4, gz_0, gz_1, dvd_96, dvd_2, dvd_10000, rmd_96, rmd_8, xg_at, xg_0, mr_at, up_xg, up_mr, narz_0, narz_1, i10, i01, i11, i00, ↓reduceIte, e10, e01, e50, e51, e20, e60, e70, e30, e40, Classical.not_not, not_true_eq_false, not_false_eq_true]
  repeat' split
  all_goals first | rfl | (exfalso; omega)
theorem x_cardq (v : Int32) (σ : Sig) (G : Gd) : f11_requireCard v (xg σ 8 G) = if 0 ≤ v.toInt ∧ v.toInt < (G 5 0).toInt then some (0, 0, xg σ 8 G) else some (2, 0, xg σ 8 G) := by
  unfold f11_requireCard
  rw [x_has2]
  simp only [nm_ap, bnd_ap, bns_ap, bnx_ap0, bnx_ap1, bnx_ap2, bnx_ap3, bnx_ap4, gz_0, gz_1, dvd_96, dvd_2, dvd_10000, rmd_96, rmd_8, xg_at, xg_0, mr_at, up_xg, up_mr, narz_0, narz_1, i10, i01, i11, i00, ↓reduceIte, e10, e01, e50, e51, e20, e60, e70, e30, e40, Classical.not_not, not_true_eq_false, not_false_eq_true]
  repeat' split
  all_goals first | rfl | (exfalso; omega)
theorem x_scentq (v : Int32) (σ : Sig) (G : Gd) : f11_requireScent v (xg σ 8 G) = if 0 ≤ v.toInt ∧ v.toInt < (G 2 0).toInt then some (0, 0, xg σ 8 G) else some (2, 0, xg σ 8 G) := by
  unfold f11_requireScent
  rw [x_has10]
  simp only [nm_ap, bnd_ap, bns_ap, bnx_ap0, bnx_ap1, bnx_ap2, bnx_ap3, bnx_ap4, gz_0, gz_1, dvd_96, dvd_2, dvd_10000, rmd_96, rmd_8, xg_at, xg_0, mr_at, up_xg, up_mr, narz_0, narz_1, i10, i01, i11, i00, ↓reduceIte, e10, e01, e50, e51, e20, e60, e70, e30, e40, Classical.not_not, not_true_eq_false, not_false_eq_true]
  repeat' split
  all_goals first | rfl | (exfalso; omega)
theorem x_set (v : Int32) (σ : Sig) (G : Gd) : f11_requireSetOfScents v (xg σ 8 G) = if 1 ≤ v.toInt ∧ v.toInt ≤ (SA G).toInt then some (0, 0, xg σ 8 G) else some (1, 0, xg σ 8 G) := by
  unfold f11_requireSetOfScents
  rw [x_all]
  simp only [nm_ap, bnd_ap, bns_ap, bnx_ap0, bnx_ap1, bnx_ap2, bnx_ap3, bnx_ap4, gz_0, gz_1, dvd_96, dvd_2, dvd_10000, rmd_96, rmd_8, xg_at, xg_0, mr_at, up_xg, up_mr, narz_0, narz_1, i10, i01, i11, i00, ↓reduceIte, e10, e01, e50, e51, e20, e60, e70, e30, e40, Classical.not_not, not_true_eq_false, not_false_eq_true, x_range, Int32.reduceToInt]
  repeat' split
  all_goals rfl
/-! the class alone, out of the whole check's mathematics -/
def oc (G : Gd) : Nat → Int32
  | 0 => 0
  | k + 1 => if Opn G (Int32.ofNat k) = 0 then oc G k else oc G k + 1
theorem oc_lo (G : Gd) {k : Nat} (h : k ≤ 32) : oc G k = 0 := by
  induction k with
  | zero => rfl
  | succ k ih =>
    rw [oc, if_pos, ih (by omega)]
    unfold Opn
    rw [if_neg (by rw [oN _ (by omega)]; omega)]
theorem x_oticks_l {σ : Sig} {n : Nat} {G : Gd} : ∀ (fu k : Nat), k ≤ 68 → 68 < fu + k → f3_openTicksOfDay_b5 n fu (oc G k) (Int32.ofNat k) (xg σ n G) = some (oc G 68) := by
  intro fu
  induction fu with
  | zero => intro k h1 h2; omega
  | succ fu ih =>
    intro k h1 h2
    have ek := oN k (by omega)
    have e67 : (67 : Int32).toInt = 67 := rfl
    rw [f3_openTicksOfDay_b5, x_isOpen]
    by_cases hk : k = 68
    · rw [if_pos (by rw [Int32.lt_iff_toInt_lt, ek, e67]; omega), hk]
    · rw [if_neg (by rw [Int32.lt_iff_toInt_lt, ek, e67]; omega)]
      have q := ih (k + 1) (by omega) (by omega)
      unfold f3_openTicksOfDay_b22
      simp only [nm_ap, bnd_ap, bns_ap, bnx_ap0, bnx_ap1, bnx_ap2, bnx_ap3, bnx_ap4, gz_0, gz_1, dvd_96, dvd_2, dvd_10000, rmd_96, rmd_8, xg_at, xg_0, mr_at, up_xg, up_mr, narz_0, narz_1, i10, i01, i11, i00, ↓reduceIte, e10, e01, e50, e51, e20, e60, e70, e30, e40, Classical.not_not, not_true_eq_false, not_false_eq_true, oN1]
      rw [oc] at q
      by_cases ho : Opn G (Int32.ofNat k) = 0
      · rw [if_pos ho] at q ⊢; exact q
      · rw [if_neg ho] at q ⊢; exact q
theorem x_oticks (σ : Sig) (n : Nat) (G : Gd) : f3_openTicksOfDay n (xg σ n G) = some (oc G 68) := by
  have q := x_oticks_l (σ := σ) (n := n) (G := G) FU 32 (by omega) (by unfold FU; omega)
  rw [oc_lo G (Nat.le_refl 32)] at q
  exact q
/-! the class alone, out of the whole check's mathematics -/
def fpd (G : Gd) (p : Nat) : Int32 := if G 26 p < Rd G p then G 26 p else Rd G p
def Gbck (G : Gd) (p : Nat) : Gd := p2 (if (G 20 p).toInt = -1 then Gbk G p (Rd G p) (fpd G p) else Glos (Gbk G p (Rd G p) (fpd G p)) p) 21 p 1
theorem fpd_in {G : Gd} (hi : Iv G) {p : Nat} (hp : (p : Int) < (G 4 0).toInt) : 0 ≤ (fpd G p).toInt ∧ (fpd G p).toInt ≤ (G 26 p).toInt ∧ (fpd G p).toInt ≤ (Rd G p).toInt := by
  have h1 := hi.p hp
  have h2 := Rd_in hi hp
  unfold fpd
  split
  · rename_i c; rw [Int32.lt_iff_toInt_lt] at c; omega
  · rename_i c; rw [Int32.lt_iff_toInt_lt] at c; omega
theorem x_back {σ : Sig} {n : Nat} {G : Gd} (hi : Iv G) {p : Int32} (hp : 0 ≤ p.toInt ∧ p.toInt < (G 4 0).toInt) : f4_takeBackPass n p (xg σ n G) = some (Rd G p.toInt.toNat - fpd G p.toInt.toNat, xg σ n (Gbck G p.toInt.toNat)) := by
  have h0 := hi.1
  have h1 := hi.p (p := p.toInt.toNat) (by omega)
  have hp3 : 0 ≤ p.toInt ∧ p.toInt < 30 := by omega
  have hp30 : 0 ≤ p.toInt ∧ p.toInt < ((30 : Nat) : Int) := hp3
  have ef : (if G 26 p.toInt.toNat < Rd G p.toInt.toNat then G 26 p.toInt.toNat else Rd G p.toInt.toNat) = fpd G p.toInt.toNat := rfl
  have eb : Gpay (p2 G 6 1 (G 6 1 + Rd G p.toInt.toNat)) p.toInt.toNat (fpd G p.toInt.toNat) = Gbk G p.toInt.toNat (Rd G p.toInt.toNat) (fpd G p.toInt.toNat) := rfl
  have e20 : Gbk G p.toInt.toNat (Rd G p.toInt.toNat) (fpd G p.toInt.toNat) 20 = G 20 := rfl
  have e5 : Gbk G p.toInt.toNat (Rd G p.toInt.toNat) (fpd G p.toInt.toNat) 5 = G 5 := rfl
  unfold f4_takeBackPass Gbck
  rw [x_refund hi hp]
  simp only [nm_ap, bnd_ap, bns_ap, bnx_ap0, bnx_ap1, bnx_ap2, bnx_ap3, bnx_ap4, gz_0, gz_1, dvd_96, dvd_2, dvd_10000, rmd_96, rmd_8, xg_at, xg_0, mr_at, up_xg, up_mr, narz_0, narz_1, i10, i01, i11, i00, ↓reduceIte, e10, e01, e50, e51, e20, e60, e70, e30, e40, Classical.not_not, not_true_eq_false, not_false_eq_true, ald_in hp30, ef, x_pay hp3, eb]
  by_cases c : (G 20 p.toInt.toNat).toInt = -1
  · rw [x_block0 hp3 (by rw [e20]; exact c), if_pos c]
    simp only [nm_ap, bnd_ap, bns_ap, bnx_ap0, bnx_ap1, bnx_ap2, bnx_ap3, bnx_ap4, gz_0, gz_1, dvd_96, dvd_2, dvd_10000, rmd_96, rmd_8, xg_at, xg_0, mr_at, up_xg, up_mr, narz_0, narz_1, i10, i01, i11, i00, ↓reduceIte, e10, e01, e50, e51, e20, e60, e70, e30, e40, Classical.not_not, not_true_eq_false, not_false_eq_true, ast_in hp30]
  · rw [x_block hp3 (by rw [e20, e5]; omega) (by rw [e5]; omega), if_neg c]
    simp only [nm_ap, bnd_ap, bns_ap, bnx_ap0, bnx_ap1, bnx_ap2, bnx_ap3, bnx_ap4, gz_0, gz_1, dvd_96, dvd_2, dvd_10000, rmd_96, rmd_8, xg_at, xg_0, mr_at, up_xg, up_mr, narz_0, narz_1, i10, i01, i11, i00, ↓reduceIte, e10, e01, e50, e51, e20, e60, e70, e30, e40, Classical.not_not, not_true_eq_false, not_false_eq_true, ast_in hp30]
/-! the class alone, out of the whole check's mathematics -/
def s32 (f : Nat → Int32) : Nat → Int32
  | 0 => 0
  | k + 1 => s32 f k + f k
theorem s32_congr {f g : Nat → Int32} {n : Nat} (h : ∀ k, k < n → f k = g k) : s32 f n = s32 g n := by
  induction n with
  | zero => rfl
  | succ n ih => simp only [s32]; rw [ih (fun k hk => h k (by omega)), h n (by omega)]
theorem s32_sm {f : Nat → Int32} {n : Nat} (h : ∀ k, k < n → 0 ≤ (f k).toInt) (hb : sm f n < 2147483648) : (s32 f n).toInt = sm f n := by
  induction n with
  | zero => rfl
  | succ n ih =>
    simp only [sm] at hb
    have h0 := sm_nonneg (fun k hk => h k (by omega) : ∀ k, k < n → 0 ≤ (f k).toInt)
    have h1 := h n (by omega)
    simp only [s32, sm]
    exact tv_add (ih (fun k hk => h k (by omega)) (by omega)) rfl (by omega)
theorem x_sumV_l {σ : Sig} {n : Nat} {G : Gd} (hp : 0 ≤ (G 4 0).toInt ∧ (G 4 0).toInt ≤ 30) : ∀ (fu k : Nat), k ≤ (G 4 0).toInt.toNat → (G 4 0).toInt.toNat < fu + k → f7_sumOfVisits_b4 n fu (s32 (G 23) k) (Int32.ofNat k) (xg σ n G) = some (s32 (G 23) (G 4 0).toInt.toNat) := by
  intro fu
  induction fu with
  | zero => intro k h1 h2; omega
  | succ fu ih =>
    intro k h1 h2
    have ek := oN k (by omega)
    rw [f7_sumOfVisits_b4]
    simp only [nm_ap, bnd_ap, bns_ap, bnx_ap0, bnx_ap1, bnx_ap2, bnx_ap3, bnx_ap4, gz_0, gz_1, dvd_96, dvd_2, dvd_10000, rmd_96, rmd_8, xg_at, xg_0, mr_at, up_xg, up_mr, narz_0, narz_1, i10, i01, i11, i00, ↓reduceIte, e10, e01, e50, e51, e20, e60, e70, e30, e40, Classical.not_not, not_true_eq_false, not_false_eq_true]
    by_cases hk : k = (G 4 0).toInt.toNat
    · rw [if_pos (by rw [Int32.le_iff_toInt_le, ek]; omega), hk]
    · rw [if_neg (by rw [Int32.le_iff_toInt_le, ek]; omega), ald_in (by rw [ek]; omega), ek]
      simp only [nm_ap, bnd_ap, bns_ap, bnx_ap0, bnx_ap1, bnx_ap2, bnx_ap3, bnx_ap4, gz_0, gz_1, dvd_96, dvd_2, dvd_10000, rmd_96, rmd_8, xg_at, xg_0, mr_at, up_xg, up_mr, narz_0, narz_1, i10, i01, i11, i00, ↓reduceIte, e10, e01, e50, e51, e20, e60, e70, e30, e40, Classical.not_not, not_true_eq_false, not_false_eq_true, Int.toNat_natCast, oN1]
      exact ih (k + 1) (by omega) (by omega)
theorem x_sumO_l {σ : Sig} {n : Nat} {G : Gd} (hp : 0 ≤ (G 4 0).toInt ∧ (G 4 0).toInt ≤ 30) : ∀ (fu k : Nat), k ≤ (G 4 0).toInt.toNat → (G 4 0).toInt.toNat < fu + k → f7_sumOfOwed_b4 n fu (s32 (G 26) k) (Int32.ofNat k) (xg σ n G) = some (s32 (G 26) (G 4 0).toInt.toNat) := by
  intro fu
  induction fu with
  | zero => intro k h1 h2; omega
  | succ fu ih =>
    intro k h1 h2
    have ek := oN k (by omega)
    rw [f7_sumOfOwed_b4]
    simp only [nm_ap, bnd_ap, bns_ap, bnx_ap0, bnx_ap1, bnx_ap2, bnx_ap3, bnx_ap4, gz_0, gz_1, dvd_96, dvd_2, dvd_10000, rmd_96, rmd_8, xg_at, xg_0, mr_at, up_xg, up_mr, narz_0, narz_1, i10, i01, i11, i00, ↓reduceIte, e10, e01, e50, e51, e20, e60, e70, e30, e40, Classical.not_not, not_true_eq_false, not_false_eq_true]
    by_cases hk : k = (G 4 0).toInt.toNat
    · rw [if_pos (by rw [Int32.le_iff_toInt_le, ek]; omega), hk]
    · rw [if_neg (by rw [Int32.le_iff_toInt_le, ek]; omega), ald_in (by rw [ek]; omega), ek]
      simp only [nm_ap, bnd_ap, bns_ap, bnx_ap0, bnx_ap1, bnx_ap2, bnx_ap3, bnx_ap4, gz_0, gz_1, dvd_96, dvd_2, dvd_10000, rmd_96, rmd_8, xg_at, xg_0, mr_at, up_xg, up_mr, narz_0, narz_1, i10, i01, i11, i00, ↓reduceIte, e10, e01, e50, e51, e20, e60, e70, e30, e40, Classical.not_not, not_true_eq_false, not_false_eq_true, Int.toNat_natCast, oN1]
      exact ih (k + 1) (by omega) (by omega)
theorem x_sumB_l {σ : Sig} {n : Nat} {G : Gd} (hp : 0 ≤ (G 3 0).toInt ∧ (G 3 0).toInt ≤ 8) : ∀ (fu k : Nat), k ≤ (G 3 0).toInt.toNat → (G 3 0).toInt.toNat < fu + k → f0_sumOfVisits_b4 n fu (s32 (G 13) k) (Int32.ofNat k) (xg σ n G) = some (s32 (G 13) (G 3 0).toInt.toNat) := by
  intro fu
  induction fu with
  | zero => intro k h1 h2; omega
  | succ fu ih =>
    intro k h1 h2
    have ek := oN k (by omega)
    rw [f0_sumOfVisits_b4]
    simp only [nm_ap, bnd_ap, bns_ap, bnx_ap0, bnx_ap1, bnx_ap2, bnx_ap3, bnx_ap4, gz_0, gz_1, dvd_96, dvd_2, dvd_10000, rmd_96, rmd_8, xg_at, xg_0, mr_at, up_xg, up_mr, narz_0, narz_1, i10, i01, i11, i00, ↓reduceIte, e10, e01, e50, e51, e20, e60, e70, e30, e40, Classical.not_not, not_true_eq_false, not_false_eq_true]
    by_cases hk : k = (G 3 0).toInt.toNat
    · rw [if_pos (by rw [Int32.le_iff_toInt_le, ek]; omega), hk]
    · rw [if_neg (by rw [Int32.le_iff_toInt_le, ek]; omega), ald_in (by rw [ek]; omega), ek]
      simp only [nm_ap, bnd_ap, bns_ap, bnx_ap0, bnx_ap1, bnx_ap2, bnx_ap3, bnx_ap4, gz_0, gz_1, dvd_96, dvd_2, dvd_10000, rmd_96, rmd_8, xg_at, xg_0, mr_at, up_xg, up_mr, narz_0, narz_1, i10, i01, i11, i00, ↓reduceIte, e10, e01, e50, e51, e20, e60, e70, e30, e40, Classical.not_not, not_true_eq_false, not_false_eq_true, Int.toNat_natCast, oN1]
      exact ih (k + 1) (by omega) (by omega)
theorem x_sums {σ : Sig} {n : Nat} {G : Gd} (hi : Iv G) : f7_sumOfVisits n (xg σ n G) = some (s32 (G 23) (G 4 0).toInt.toNat) ∧ f7_sumOfOwed n (xg σ n G) = some (s32 (G 26) (G 4 0).toInt.toNat) ∧ f0_sumOfVisits n (xg σ n G) = some (s32 (G 13) (G 3 0).toInt.toNat) := by
  have h0 := hi.1
  exact ⟨x_sumV_l (by omega) FU 0 (by omega) (by unfold FU; omega), x_sumO_l (by omega) FU 0 (by omega) (by unfold FU; omega), x_sumB_l (by omega) FU 0 (by omega) (by unfold FU; omega)⟩
theorem sums_eq {G : Gd} (hi : Iv G) : s32 (G 23) (G 4 0).toInt.toNat = s32 (G 13) (G 3 0).toInt.toNat := by
  have h0 := hi.1
  have hv := vis_all hi
  have hs := hi.2.2.2.2.2
  apply ti_ext
  rw [s32_sm (fun k hk => by have := hi.p (p := k) (by omega); omega) (by omega), s32_sm (fun k hk => by have := hi.b (b := k) (by omega); omega) (by omega), hs]
theorem used_vis {G : Gd} (hi : Iv G) : (s32 (fun p => bitc (G 22 p)) (G 4 0).toInt.toNat = 0 ↔ s32 (G 23) (G 4 0).toInt.toNat = 0) ∧ 0 ≤ (s32 (fun p => bitc (G 22 p)) (G 4 0).toInt.toNat).toInt ∧ (s32 (fun p => bitc (G 22 p)) (G 4 0).toInt.toNat).toInt ≤ 420 := by
  have h0 := hi.1
  have hv := vis_all hi
  have b : ∀ k, k < (G 4 0).toInt.toNat → 0 ≤ (bitc (G 22 k)).toInt ∧ (bitc (G 22 k)).toInt ≤ 14 ∧ ((bitc (G 22 k)).toInt = 0 ↔ (G 22 k).toInt = 0) := fun k hk => bitc_in (by have := hi.p (p := k) (by omega); omega)
  have n1 : ∀ k, k < (G 4 0).toInt.toNat → 0 ≤ ((fun p => bitc (G 22 p)) k).toInt := fun k hk => (b k hk).1
  have n2 : ∀ k, k < (G 4 0).toInt.toNat → 0 ≤ (G 23 k).toInt := fun k hk => by have := hi.p (p := k) (by omega); omega
  have l1 := sm_le (f := fun p => bitc (G 22 p)) (n := (G 4 0).toInt.toNat) (B := 14) (fun k hk => (b k hk).2.1)
  have l0 := sm_nonneg n1
  have e1 := s32_sm n1 (by omega)
  have e2 := s32_sm n2 (by omega)
  have z : ∀ x : Int32, x = 0 ↔ x.toInt = 0 := fun x => ⟨fun e => by rw [e]; rfl, fun e => ti_ext (by rw [e]; rfl)⟩
  have zz : ∀ (f : Nat → Int32) (n : Nat), (∀ k, k < n → (f k).toInt = 0) → sm f n = 0 := by
    intro f n hf
    induction n with
    | zero => rfl
    | succ n ih => simp only [sm]; rw [ih (fun k hk => hf k (by omega)), hf n (by omega)]; rfl
  refine ⟨?_, by omega, by omega⟩
  rw [z, z, e1, e2]
  constructor
  · intro hz
    have q := sm_zero n1 hz
    exact zz _ _ (fun k hk => by
      have h1 := hi.p (p := k) (by omega)
      have h2 := (b k hk).2.2
      have h3 : (bitc (G 22 k)).toInt = 0 := q k hk
      omega)
  · intro hz
    have q := sm_zero n2 hz
    exact zz _ _ (fun k hk => by
      have h1 := hi.p (p := k) (by omega)
      have h2 := (b k hk).2.2
      have h3 := q k hk
      show (bitc (G 22 k)).toInt = 0
      omega)
/-! the class alone, out of the whole check's mathematics -/
def va1 (G : Gd) (p : Nat) : Int32 := if (G 17 p).toInt < (bitc (G 22 p)).toInt then 1 else 0
def va2 (G : Gd) (p : Nat) : Int32 := if ¬ (G 20 p).toInt = -1 ∧ ¬ ((G 28 (G 20 p).toInt.toNat).toInt = 0 ∧ G 27 (G 20 p).toInt.toNat = Int32.ofNat p) then 1 else 0
def va3 (G : Gd) (p : Nat) : Int32 := if ¬ (G 20 p).toInt = -1 ∧ ¬ (G 21 p).toInt = 0 then 1 else 0
def vap (G : Gd) : Nat → Int32
  | 0 => 0
  | k + 1 => vap G k + va1 G k + va2 G k + va3 G k
def vb1 (G : Gd) (b : Nat) : Int32 := if (G 9 b).toInt < (G 14 b).toInt ∨ (G 12 b).toInt < 0 ∨ 50 < (G 12 b).toInt then 1 else 0
theorem x_openCard {σ : Sig} {n : Nat} {G : Gd} {k p : Int32} (hk : 0 ≤ k.toInt ∧ k.toInt < (G 5 0).toInt) (hk5 : (G 5 0).toInt ≤ 50) : f2_isOpenCardOf n k p (xg σ n G) = some (if (G 28 k.toInt.toNat).toInt = 0 ∧ G 27 k.toInt.toNat = p then 1 else 0) := by
  have kx : 0 ≤ k.toInt ∧ k.toInt < ((50 : Nat) : Int) := by omega
  unfold f2_isOpenCardOf
  simp only [nm_ap, bnd_ap, bns_ap, bnx_ap0, bnx_ap1, bnx_ap2, bnx_ap3, bnx_ap4, gz_0, gz_1, dvd_96, dvd_2, dvd_10000, rmd_96, rmd_8, xg_at, xg_0, mr_at, up_xg, up_mr, narz_0, narz_1, i10, i01, i11, i00, ↓reduceIte, e10, e01, e50, e51, e20, e60, e70, e30, e40, Classical.not_not, not_true_eq_false, not_false_eq_true, x_has2, hk, and_self, ald_in kx]
  by_cases h1 : G 28 k.toInt.toNat = 0
  · have h1' : (G 28 k.toInt.toNat).toInt = 0 := by rw [h1]; rfl
    by_cases h2 : G 27 k.toInt.toNat = p
    · rw [if_pos h1, if_pos h2, if_pos ⟨h1', h2⟩]
    · rw [if_pos h1, if_neg h2, if_neg (fun z => h2 z.2)]
  · have h1' : ¬ (G 28 k.toInt.toNat).toInt = 0 := fun e => h1 (ti_ext (by rw [e]; rfl))
    rw [if_neg h1, if_neg (fun z => h1' z.1)]
theorem x_vp_l {σ : Sig} {n : Nat} {G : Gd} (hi : Iv G) : ∀ (fu k : Nat), k ≤ (G 4 0).toInt.toNat → (G 4 0).toInt.toNat < fu + k → f4_countWrongPasses_b4 n fu (vap G k) (Int32.ofNat k) (xg σ n G) = some (vap G (G 4 0).toInt.toNat) := by
  have h0 := hi.1
  intro fu
  induction fu with
  | zero => intro k h1 h2; omega
  | succ fu ih =>
    intro k h1 h2
    have ek := oN k (by omega)
    rw [f4_countWrongPasses_b4]
    simp only [nm_ap, bnd_ap, bns_ap, bnx_ap0, bnx_ap1, bnx_ap2, bnx_ap3, bnx_ap4, gz_0, gz_1, dvd_96, dvd_2, dvd_10000, rmd_96, rmd_8, xg_at, xg_0, mr_at, up_xg, up_mr, narz_0, narz_1, i10, i01, i11, i00, ↓reduceIte, e10, e01, e50, e51, e20, e60, e70, e30, e40, Classical.not_not, not_true_eq_false, not_false_eq_true]
    by_cases hk : k = (G 4 0).toInt.toNat
    · rw [if_pos (by rw [Int32.le_iff_toInt_le, ek]; omega), hk]
    · have q := ih (k + 1) (by omega) (by omega)
      have k3 : 0 ≤ (Int32.ofNat k).toInt ∧ (Int32.ofNat k).toInt < 30 := by rw [ek]; omega
      have k30 : 0 ≤ (Int32.ofNat k).toInt ∧ (Int32.ofNat k).toInt < ((30 : Nat) : Int) := k3
      have hp := hi.p (p := k) (by omega)
      have en : (Int32.ofNat k).toInt.toNat = k := by rw [ek]; rfl
      rw [if_neg (by rw [Int32.le_iff_toInt_le, ek]; omega), x_used k3]
      simp only [nm_ap, bnd_ap, bns_ap, bnx_ap0, bnx_ap1, bnx_ap2, bnx_ap3, bnx_ap4, gz_0, gz_1, dvd_96, dvd_2, dvd_10000, rmd_96, rmd_8, xg_at, xg_0, mr_at, up_xg, up_mr, narz_0, narz_1, i10, i01, i11, i00, ↓reduceIte, e10, e01, e50, e51, e20, e60, e70, e30, e40, Classical.not_not, not_true_eq_false, not_false_eq_true, ald_in k30, en]
      rw [vap] at q
      -- the third
      have t3 : ∀ x, f4_countWrongPasses_b72 n (f4_countWrongPasses_b4 n fu) x (Int32.ofNat k) (xg σ n G) = f4_countWrongPasses_b4 n fu (x + va3 G k) (Int32.ofNat (k + 1)) (xg σ n G) := by
        intro x
        unfold f4_countWrongPasses_b72 f4_countWrongPasses_b98 va3
        rw [x_hasCard k3]
        simp only [nm_ap, bnd_ap, bns_ap, bnx_ap0, bnx_ap1, bnx_ap2, bnx_ap3, bnx_ap4, gz_0, gz_1, dvd_96, dvd_2, dvd_10000, rmd_96, rmd_8, xg_at, xg_0, mr_at, up_xg, up_mr, narz_0, narz_1, i10, i01, i11, i00, ↓reduceIte, e10, e01, e50, e51, e20, e60, e70, e30, e40, Classical.not_not, not_true_eq_false, not_false_eq_true, ald_in k30, en, oN1]
        by_cases c1 : (G 20 k).toInt = -1
        · rw [if_pos c1, if_neg (fun z => z.1 c1), Int32.add_zero]
        · rw [if_neg c1]
          rcases b01 (x := G 21 k) (by omega) with c2 | c2
          · rw [c2, if_pos rfl, if_neg (fun z => z.2 rfl), Int32.add_zero]
          · rw [c2, if_neg (by decide), if_pos ⟨c1, by decide⟩]
      have t2 : ∀ x, f4_countWrongPasses_b38 n (f4_countWrongPasses_b4 n fu) x (Int32.ofNat k) (xg σ n G) = f4_countWrongPasses_b4 n fu (x + va2 G k + va3 G k) (Int32.ofNat (k + 1)) (xg σ n G) := by
        intro x
        unfold f4_countWrongPasses_b38 va2
        rw [x_hasCard k3]
        simp only [nm_ap, bnd_ap, bns_ap, bnx_ap0, bnx_ap1, bnx_ap2, bnx_ap3, bnx_ap4, gz_0, gz_1, dvd_96, dvd_2, dvd_10000, rmd_96, rmd_8, xg_at, xg_0, mr_at, up_xg, up_mr, narz_0, narz_1, i10, i01, i11, i00, ↓reduceIte, e10, e01, e50, e51, e20, e60, e70, e30, e40, Classical.not_not, not_true_eq_false, not_false_eq_true, ald_in k30, en, t3]
        by_cases c1 : (G 20 k).toInt = -1
        · rw [if_pos c1, if_neg (fun z => z.1 c1), Int32.add_zero]
        · rw [if_neg c1, x_openCard (by omega) (by omega)]
          simp only [nm_ap, bnd_ap, bns_ap, bnx_ap0, bnx_ap1, bnx_ap2, bnx_ap3, bnx_ap4, gz_0, gz_1, dvd_96, dvd_2, dvd_10000, rmd_96, rmd_8, xg_at, xg_0, mr_at, up_xg, up_mr, narz_0, narz_1, i10, i01, i11, i00, ↓reduceIte, e10, e01, e50, e51, e20, e60, e70, e30, e40, Classical.not_not, not_true_eq_false, not_false_eq_true]
          by_cases c2 : (G 28 (G 20 k).toInt.toNat).toInt = 0 ∧ G 27 (G 20 k).toInt.toNat = Int32.ofNat k
          · rw [if_neg (fun z => z c2), if_neg (fun z => z.2 c2), Int32.add_zero]
          · rw [if_pos c2, if_pos ⟨c1, c2⟩]
      by_cases c : (G 17 k).toInt < (bitc (G 22 k)).toInt
      · rw [if_neg (by rw [Int32.le_iff_toInt_le]; omega), t2]
        rw [va1, if_pos c] at q
        exact q
      · rw [if_pos (by rw [Int32.le_iff_toInt_le]; omega), t2]
        rw [va1, if_neg c, Int32.add_zero] at q
        exact q
theorem x_vb_l {σ : Sig} {n : Nat} {G : Gd} (hi : Iv G) : ∀ (fu k : Nat), k ≤ (G 3 0).toInt.toNat → (G 3 0).toInt.toNat < fu + k → f0_countWrong_b4 n fu (s32 (vb1 G) k) (Int32.ofNat k) (xg σ n G) = some (s32 (vb1 G) (G 3 0).toInt.toNat) := by
  have h0 := hi.1
  intro fu
  induction fu with
  | zero => intro k h1 h2; omega
  | succ fu ih =>
    intro k h1 h2
    have ek := oN k (by omega)
    rw [f0_countWrong_b4]
    simp only [nm_ap, bnd_ap, bns_ap, bnx_ap0, bnx_ap1, bnx_ap2, bnx_ap3, bnx_ap4, gz_0, gz_1, dvd_96, dvd_2, dvd_10000, rmd_96, rmd_8, xg_at, xg_0, mr_at, up_xg, up_mr, narz_0, narz_1, i10, i01, i11, i00, ↓reduceIte, e10, e01, e50, e51, e20, e60, e70, e30, e40, Classical.not_not, not_true_eq_false, not_false_eq_true]
    by_cases hk : k = (G 3 0).toInt.toNat
    · rw [if_pos (by rw [Int32.le_iff_toInt_le, ek]; omega), hk]
    · have q := ih (k + 1) (by omega) (by omega)
      have k8 : 0 ≤ (Int32.ofNat k).toInt ∧ (Int32.ofNat k).toInt < 8 := by rw [ek]; omega
      have k80 : 0 ≤ (Int32.ofNat k).toInt ∧ (Int32.ofNat k).toInt < ((8 : Nat) : Int) := k8
      have hb := hi.b (b := k) (by omega)
      have en : (Int32.ofNat k).toInt.toNat = k := by rw [ek]; rfl
      have ef : (G 9 k - G 14 k).toInt = (G 9 k).toInt - (G 14 k).toInt := tv_sub rfl rfl (by omega)
      have e0 : (0 : Int32).toInt = 0 := rfl
      have e50 : (50 : Int32).toInt = 50 := rfl
      have nv : vb1 G k = 0 ∨ vb1 G k = 1 := by unfold vb1; split <;> simp
      rw [if_neg (by rw [Int32.le_iff_toInt_le, ek]; omega), x_free k8]
      unfold f0_countWrong_b40 f0_countWrong_b43
      simp only [nm_ap, bnd_ap, bns_ap, bnx_ap0, bnx_ap1, bnx_ap2, bnx_ap3, bnx_ap4, gz_0, gz_1, dvd_96, dvd_2, dvd_10000, rmd_96, rmd_8, xg_at, xg_0, mr_at, up_xg, up_mr, narz_0, narz_1, i10, i01, i11, i00, ↓reduceIte, e10, e01, e50, e51, e20, e60, e70, e30, e40, Classical.not_not, not_true_eq_false, not_false_eq_true, ald_in k80, en, oN1, Int32.lt_iff_toInt_lt, Int32.le_iff_toInt_le, ef, e0, e50]
      rw [s32, vb1] at q
      by_cases c1 : (G 9 k).toInt - (G 14 k).toInt < 0
      · rw [if_pos c1]; rw [if_pos (by omega)] at q; exact q
      · rw [if_neg c1]
        by_cases c2 : (G 12 k).toInt < 0
        · rw [if_pos c2]; rw [if_pos (by omega)] at q; exact q
        · rw [if_neg c2]
          by_cases c3 : (G 12 k).toInt ≤ 50
          · rw [if_pos c3]; rw [if_neg (by omega), Int32.add_zero] at q; exact q
          · rw [if_neg c3]; rw [if_pos (by omega)] at q; exact q
def vs1 (G : Gd) : Int32 := if s32 (G 13) (G 3 0).toInt.toNat = s32 (G 23) (G 4 0).toInt.toNat then 0 else 1
def vs2 (G : Gd) : Int32 := if G 6 2 = G 6 3 + s32 (G 26) (G 4 0).toInt.toNat then 0 else 1
def vAll (G : Gd) : Int32 := vap G (G 4 0).toInt.toNat + s32 (vb1 G) (G 3 0).toInt.toNat + (vs1 G + vs2 G)
theorem x_viol {σ : Sig} {G : Gd} (hi : Iv G) : f11_violations (xg σ 8 G) = some (vAll G) := by
  have h0 := hi.1
  have xs := x_sums (σ := σ) (n := 8) hi
  have q1 : f4_countWrongPasses 8 (xg σ 8 G) = some (vap G (G 4 0).toInt.toNat) := x_vp_l hi FU 0 (by omega) (by unfold FU; omega)
  have q2 : f0_countWrong 8 (xg σ 8 G) = some (s32 (vb1 G) (G 3 0).toInt.toNat) := x_vb_l hi FU 0 (by omega) (by unfold FU; omega)
  have q3 : f4_countWrongSums 8 (xg σ 8 G) = some (vs1 G + vs2 G) := by
    unfold f4_countWrongSums f4_countWrongSums_b22 vs1 vs2
    simp only [nm_ap, bnd_ap, bns_ap, bnx_ap0, bnx_ap1, bnx_ap2, bnx_ap3, bnx_ap4, gz_0, gz_1, dvd_96, dvd_2, dvd_10000, rmd_96, rmd_8, xg_at, xg_0, mr_at, up_xg, up_mr, narz_0, narz_1, i10, i01, i11, i00, ↓reduceIte, e10, e01, e50, e51, e20, e60, e70, e30, e40, Classical.not_not, not_true_eq_false, not_false_eq_true, xs.1, xs.2.1, xs.2.2]
    by_cases c1 : s32 (G 13) (G 3 0).toInt.toNat = s32 (G 23) (G 4 0).toInt.toNat
    · rw [if_pos c1, if_pos c1]
      by_cases c2 : G 6 2 = G 6 3 + s32 (G 26) (G 4 0).toInt.toNat
      · rw [if_pos c2, if_pos c2]; rfl
      · rw [if_neg c2, if_neg c2]
    · rw [if_neg c1, if_neg c1]
      by_cases c2 : G 6 2 = G 6 3 + s32 (G 26) (G 4 0).toInt.toNat
      · rw [if_pos c2, if_pos c2]; rfl
      · rw [if_neg c2, if_neg c2]
  unfold f11_violations
  simp only [nm_ap, bnd_ap, bns_ap, bnx_ap0, bnx_ap1, bnx_ap2, bnx_ap3, bnx_ap4, gz_0, gz_1, dvd_96, dvd_2, dvd_10000, rmd_96, rmd_8, xg_at, xg_0, mr_at, up_xg, up_mr, narz_0, narz_1, i10, i01, i11, i00, ↓reduceIte, e10, e01, e50, e51, e20, e60, e70, e30, e40, Classical.not_not, not_true_eq_false, not_false_eq_true, q1, q2, q3]
  rfl
/-! the class alone, out of the whole check's mathematics -/
theorem back8 {x : Nat} (hx : x < 8) : (Int32.ofNat x + 8 - 1 - (Int32.ofNat x + 8 - 1) / 8 * 8) = Int32.ofNat ((x + 7) % 8) := by
  have : ∀ x : Fin 8, (Int32.ofNat x.1 + 8 - 1 - (Int32.ofNat x.1 + 8 - 1) / 8 * 8) = Int32.ofNat ((x.1 + 7) % 8) := by decide +kernel
  exact this ⟨x, hx⟩
theorem oNs {c : Nat} (h : 1 ≤ c) : Int32.ofNat c - 1 = Int32.ofNat (c - 1) := (Int32.ofNat_sub c 1 h).symm
theorem oN_ne0 {c : Nat} (h : 1 ≤ c) (h2 : c < 1000) : ¬ Int32.ofNat c = 0 := fun e => by
  have := congrArg Int32.toInt e
  rw [oN _ (by omega), show (0 : Int32).toInt = 0 from rfl] at this
  omega
