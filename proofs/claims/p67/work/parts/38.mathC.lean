/-! the class alone, out of the whole check's mathematics -/
theorem narb (v : Int32) : vp_nar .byte v = v.toInt8.toInt32 := by first | rfl | simp [vp_nar, narrow]
theorem and255 (v : Int32) : (v &&& 255).toInt = v.toInt % 256 := by
  have h : (v &&& 255).toBitVec.toNat = v.toBitVec.toNat % 256 := by
    show (v.toBitVec &&& 255#32).toNat = _
    rw [BitVec.toNat_and, show (255#32).toNat = 2 ^ 8 - 1 from rfl, Nat.and_two_pow_sub_one_eq_mod]
  have e1 : (v &&& 255).toInt = ((v &&& 255).toBitVec.toNat : Int) := by
    rw [← Int32.toInt_toBitVec, BitVec.toInt_eq_toNat_of_lt (by rw [h]; omega)]
  have e2 : v.toInt = v.toBitVec.toNat ∨ v.toInt = (v.toBitVec.toNat : Int) - 4294967296 := by
    rw [← Int32.toInt_toBitVec, BitVec.toInt_eq_toNat_cond]
    split
    · left; rfl
    · right; rfl
  rw [e1, h]
  omega
theorem bt_low (v : Int32) : bt (vp_nar .byte v.toInt8.toInt32) (v &&& 255) := by
  have h1 := and255 v
  have h2 : (vp_nar .byte v.toInt8.toInt32).toInt = v.toInt.bmod 256 := by
    rw [narb]
    simp
  have h3 : v.toInt.bmod 256 = if v.toInt % 256 < 128 then v.toInt % 256 else v.toInt % 256 - 256 := by
    rw [Int.bmod_def]; rfl
  unfold bt
  by_cases c : v.toInt % 256 < 128
  · left
    rw [if_pos c] at h3
    exact ⟨by omega, by omega, ti_ext (by rw [h2, h3, h1])⟩
  · right
    rw [if_neg c] at h3
    exact ⟨by omega, by omega, by omega⟩
theorem ur_xg0 (σ : Sig) (n : Nat) (G : Gd) (c : Nat) (f : Nat → Int32) : ur (xg σ n G) 0 c f = xg (ur σ 0 c f) n G := by
  funext g c'
  unfold ur xg
  by_cases h : g = n + 1
  · subst h; simp
  · by_cases h2 : g = 0 ∧ c' = c
    · obtain ⟨rfl, rfl⟩ := h2; simp
    · simp [h, h2]
theorem up_urc (σ : Sig) (c j : Nat) (f : Nat → Int32) (v : Int32) : up (ur σ 0 c f) 0 c j v = ur σ 0 c (upd f j v) := by
  funext g c'
  unfold up ur
  by_cases h : g = 0 ∧ c' = c
  · obtain ⟨rfl, rfl⟩ := h; simp
  · simp [h]
theorem ur_selfc (σ : Sig) (c : Nat) : ur σ 0 c (σ 0 c) = σ := by
  funext g c'
  unfold ur
  split
  · rename_i h; rw [h.1, h.2]
  · rfl
/-! the class alone, out of the whole check's mathematics -/
def lB (y : Int32) : Bool := decide (97 ≤ y.toInt) && decide (y.toInt ≤ 122)
def dB (y : Int32) : Bool := decide (48 ≤ y.toInt) && decide (y.toInt ≤ 57)
def sB (y : Int32) : Bool := decide (y.toInt = 32) || decide (y.toInt = 10)
def rn (P : Nat → Bool) : Nat → Nat → Nat
  | 0, p => p
  | n + 1, p => if P p then rn P n (p + 1) else p
theorem rn_step {P : Nat → Bool} {L p : Nat} (h : p < L) (hp : P p = true) : rn P (L - p) p = rn P (L - (p + 1)) (p + 1) := by
  rw [show L - p = (L - (p + 1)) + 1 from by omega, rn, if_pos hp]
theorem rn_stop {P : Nat → Bool} {n p : Nat} (hp : P p = false) : rn P n p = p := by
  cases n with
  | zero => rfl
  | succ n => rw [rn, if_neg (by rw [hp]; exact Bool.false_ne_true)]
theorem rn_end {P : Nat → Bool} {L p : Nat} (h : L ≤ p) : rn P (L - p) p = p := by
  rw [show L - p = 0 from by omega]; rfl
theorem rn_ge (P : Nat → Bool) : ∀ n p, p ≤ rn P n p := by
  intro n
  induction n with
  | zero => intro p; exact Nat.le_refl p
  | succ n ih =>
    intro p
    rw [rn]
    split
    · have := ih (p + 1); omega
    · exact Nat.le_refl p
theorem rn_le (P : Nat → Bool) : ∀ n p, rn P n p ≤ p + n := by
  intro n
  induction n with
  | zero => intro p; exact Nat.le_refl p
  | succ n ih =>
    intro p
    rw [rn]
    split
    · have := ih (p + 1); omega
    · omega
theorem rn_all {P : Nat → Bool} : ∀ n p i, p ≤ i → i < rn P n p → P i = true := by
  intro n
  induction n with
  | zero => intro p i h1 h2; exact absurd (show i < p from h2) (by omega)
  | succ n ih =>
    intro p i h1 h2
    rw [rn] at h2
    split at h2
    · rename_i hp
      by_cases e : i = p
      · rw [e]; exact hp
      · exact ih (p + 1) i (by omega) h2
    · omega
def tA (T : Nat → Int32) (L p : Nat) : Nat := rn (fun i => sB (T i)) (L - p) p
def tEa (T : Nat → Int32) (L a : Nat) : Nat := if a < L then (if lB (T a) then rn (fun i => lB (T i)) (L - a) a else if dB (T a) then rn (fun i => dB (T i)) (L - a) a else a + 1) else a
def tKa (T : Nat → Int32) (L a : Nat) : Nat := if a < L then (if lB (T a) then 0 else if dB (T a) then (if tEa T L a - a ≤ 4 then 1 else 4) else if (T a).toInt = 59 then 2 else 4) else 3
def tE (T : Nat → Int32) (L p : Nat) : Nat := tEa T L (tA T L p)
def tK (T : Nat → Int32) (L p : Nat) : Nat := tKa T L (tA T L p)
def va (T : Nat → Int32) (a : Nat) : Nat → Int32
  | 0 => 0
  | n + 1 => va T a n * 10 + T (a + n) - 48
def tV (T : Nat → Int32) (L p : Nat) : Int32 := va T (tA T L p) (tE T L p - tA T L p)
theorem tA_le (T : Nat → Int32) {L p : Nat} (h : p ≤ L) : tA T L p ≤ L := by
  have := rn_le (fun i => sB (T i)) (L - p) p
  unfold tA; omega
theorem tEa_ge (T : Nat → Int32) (L a : Nat) : a ≤ tEa T L a := by
  unfold tEa
  have h1 := rn_ge (fun i => lB (T i)) (L - a) a
  have h2 := rn_ge (fun i => dB (T i)) (L - a) a
  repeat' split
  all_goals omega
theorem tEa_le (T : Nat → Int32) {L a : Nat} (h : a ≤ L) : tEa T L a ≤ L := by
  unfold tEa
  have h1 := rn_le (fun i => lB (T i)) (L - a) a
  have h2 := rn_le (fun i => dB (T i)) (L - a) a
  repeat' split
  all_goals omega
theorem tE_le (T : Nat → Int32) {L p : Nat} (h : p ≤ L) : tE T L p ≤ L := tEa_le T (tA_le T h)
theorem tEa_num (T : Nat → Int32) (L a : Nat) (h : tKa T L a = 1) : tEa T L a - a ≤ 4 ∧ ∀ i, a ≤ i → i < tEa T L a → dB (T i) = true := by
  unfold tKa at h
  split at h
  · rename_i c1
    split at h
    · exact absurd h (by decide)
    · rename_i c2
      split at h
      · rename_i c3
        split at h
        · rename_i c4
          refine ⟨c4, fun i h1 h2 => ?_⟩
          unfold tEa at h2
          rw [if_pos c1, if_neg c2, if_pos c3] at h2
          exact rn_all _ _ i h1 h2
        · exact absurd h (by decide)
      · split at h
        · exact absurd h (by decide)
        · exact absurd h (by decide)
  · exact absurd h (by decide)
theorem tEa_word (T : Nat → Int32) (L a : Nat) (h : tKa T L a = 0) : ∀ i, a ≤ i → i < tEa T L a → lB (T i) = true := by
  unfold tKa at h
  split at h
  · rename_i c1
    split at h
    · rename_i c2
      intro i h1 h2
      unfold tEa at h2
      rw [if_pos c1, if_pos c2] at h2
      exact rn_all _ _ i h1 h2
    · split at h
      · split at h
        · exact absurd h (by decide)
        · exact absurd h (by decide)
      · split at h
        · exact absurd h (by decide)
        · exact absurd h (by decide)
  · exact absurd h (by decide)
theorem tKa_end (T : Nat → Int32) {L a : Nat} (h : L ≤ a) : tKa T L a = 3 := by
  unfold tKa; rw [if_neg (by omega)]
def r4 (r : Nat → Int32) (k a e : Int32) : Nat → Int32 := fun j => if j = 2 then k else if j = 3 then a else if j = 4 then e else r j
def r3 (r : Nat → Int32) (x o : Int32) : Nat → Int32 := fun j => if j = 2 then x else if j = 3 then o else r j
def XB (σ : Sig) (k a e x o : Int32) : Sig := fun g c => if g = 0 ∧ c = 4 then r4 (σ 0 4) k a e else if g = 0 ∧ c = 3 then r3 (σ 0 3) x o else σ g c
theorem XB_41 (σ : Sig) (k a e x o : Int32) : XB σ k a e x o 0 4 1 = σ 0 4 1 := rfl
theorem XB_42 (σ : Sig) (k a e x o : Int32) : XB σ k a e x o 0 4 2 = k := rfl
theorem XB_43 (σ : Sig) (k a e x o : Int32) : XB σ k a e x o 0 4 3 = a := rfl
theorem XB_44 (σ : Sig) (k a e x o : Int32) : XB σ k a e x o 0 4 4 = e := rfl
theorem XB_32 (σ : Sig) (k a e x o : Int32) : XB σ k a e x o 0 3 2 = x := rfl
theorem XB_33 (σ : Sig) (k a e x o : Int32) : XB σ k a e x o 0 3 3 = o := rfl
theorem XB_ne (σ : Sig) (k a e x o : Int32) {g c : Nat} (h : ¬ (g = 0 ∧ (c = 3 ∨ c = 4))) : XB σ k a e x o g c = σ g c := by
  unfold XB; rw [if_neg (by omega), if_neg (by omega)]
theorem XB_5 (σ : Sig) (k a e x o : Int32) : XB σ k a e x o 0 5 = σ 0 5 := XB_ne σ k a e x o (by decide)
theorem XB_self (σ : Sig) : XB σ (σ 0 4 2) (σ 0 4 3) (σ 0 4 4) (σ 0 3 2) (σ 0 3 3) = σ := by
  funext g c j
  unfold XB r4 r3
  by_cases h : g = 0 ∧ c = 4
  · rw [if_pos h]
    obtain ⟨rfl, rfl⟩ := h
    by_cases h2 : j = 2
    · rw [if_pos h2, h2]
    · rw [if_neg h2]
      by_cases h3 : j = 3
      · rw [if_pos h3, h3]
      · rw [if_neg h3]
        by_cases h4 : j = 4
        · rw [if_pos h4, h4]
        · rw [if_neg h4]
  · rw [if_neg h]
    by_cases h5 : g = 0 ∧ c = 3
    · rw [if_pos h5]
      obtain ⟨rfl, rfl⟩ := h5
      by_cases h2 : j = 2
      · rw [if_pos h2, h2]
      · rw [if_neg h2]
        by_cases h3 : j = 3
        · rw [if_pos h3, h3]
        · rw [if_neg h3]
    · rw [if_neg h5]
theorem XB_u42 (σ : Sig) (k a e x o v : Int32) : up (XB σ k a e x o) 0 4 2 v = XB σ v a e x o := by
  funext g c j
  unfold up
  by_cases h : g = 0 ∧ c = 4
  · obtain ⟨rfl, rfl⟩ := h
    simp only [and_self, ↓reduceIte, upd, XB, r4]
    repeat' split
    all_goals first | rfl | contradiction | omega
  · rw [if_neg h]; simp only [XB, if_neg h]
theorem XB_u43 (σ : Sig) (k a e x o v : Int32) : up (XB σ k a e x o) 0 4 3 v = XB σ k v e x o := by
  funext g c j
  unfold up
  by_cases h : g = 0 ∧ c = 4
  · obtain ⟨rfl, rfl⟩ := h
    simp only [and_self, ↓reduceIte, upd, XB, r4]
    repeat' split
    all_goals first | rfl | contradiction | omega
  · rw [if_neg h]; simp only [XB, if_neg h]
theorem XB_u44 (σ : Sig) (k a e x o v : Int32) : up (XB σ k a e x o) 0 4 4 v = XB σ k a v x o := by
  funext g c j
  unfold up
  by_cases h : g = 0 ∧ c = 4
  · obtain ⟨rfl, rfl⟩ := h
    simp only [and_self, ↓reduceIte, upd, XB, r4]
    repeat' split
    all_goals first | rfl | contradiction | omega
  · rw [if_neg h]; simp only [XB, if_neg h]
theorem XB_u32 (σ : Sig) (k a e x o v : Int32) : up (XB σ k a e x o) 0 3 2 v = XB σ k a e v o := by
  funext g c j
  unfold up
  by_cases h : g = 0 ∧ c = 3
  · obtain ⟨rfl, rfl⟩ := h
    rw [if_pos ⟨rfl, rfl⟩, show XB σ k a e x o 0 3 = r3 (σ 0 3) x o from rfl]
    first | rw [show XB σ k a e v o 0 3 = r3 (σ 0 3) v o from rfl] | rw [show XB σ k a e x v 0 3 = r3 (σ 0 3) x v from rfl]
    unfold upd r3
    repeat' split
    all_goals first | rfl | contradiction | omega
  · rw [if_neg h]; simp only [XB, if_neg h]
theorem XB_u33 (σ : Sig) (k a e x o v : Int32) : up (XB σ k a e x o) 0 3 3 v = XB σ k a e x v := by
  funext g c j
  unfold up
  by_cases h : g = 0 ∧ c = 3
  · obtain ⟨rfl, rfl⟩ := h
    rw [if_pos ⟨rfl, rfl⟩, show XB σ k a e x o 0 3 = r3 (σ 0 3) x o from rfl]
    first | rw [show XB σ k a e v o 0 3 = r3 (σ 0 3) v o from rfl] | rw [show XB σ k a e x v 0 3 = r3 (σ 0 3) x v from rfl]
    unfold upd r3
    repeat' split
    all_goals first | rfl | contradiction | omega
  · rw [if_neg h]; simp only [XB, if_neg h]
def TX (T : Nat → Int32) (L : Nat) (σ : Sig) : Prop := σ 0 4 1 = Int32.ofNat L ∧ L ≤ 500 ∧ ∀ i, i < L → bt (σ 0 5 i) (T i)
theorem bt_s {x y : Int32} (h : bt x y) : (x = 32 ∨ x = 10) ↔ sB y = true := by
  unfold sB bt at *
  simp only [← Int32.toInt_inj, Int32.reduceToInt, Bool.or_eq_true, decide_eq_true_eq]
  rcases h with h | h
  · rw [h.2.2]
  · omega
theorem kind_of {x y : Int32} (h : bt x y) : f6_kindOf x = some (if lB y then 0 else if dB y then 1 else if y.toInt = 59 then 2 else 4) := by
  unfold f6_kindOf f6_kindOf_b14 f6_kindOf_b28 lB dB
  unfold bt at h
  have e1 : (97 : Int32).toInt = 97 := rfl
  have e2 : (122 : Int32).toInt = 122 := rfl
  have e3 : (48 : Int32).toInt = 48 := rfl
  have e4 : (57 : Int32).toInt = 57 := rfl
  have e5 : (59 : Int32).toInt = 59 := rfl
  simp only [Int32.lt_iff_toInt_lt, ← Int32.toInt_inj, Bool.and_eq_true, decide_eq_true_eq, e1, e2, e3, e4, e5]
  rcases h with h | h
  · rw [h.2.2]
    repeat' split
    all_goals first | rfl | (exfalso; omega)
  · repeat' split
    all_goals first | rfl | (exfalso; omega)
theorem bnd_eq {α β : Type} (a : α) (f : α → Option β) : bnd (some a) f = f a := by
  cases h : f a with
  | none => exact h
  | some x => exact h
theorem bns_eq {β : Type} (a : Int32) (s : Sig) (f : Int32 → Sig → Option β) : bns (some (a, s)) f = f a s := by
  cases h : f a s with
  | none => exact h
  | some x => exact h
/-! the class alone, out of the whole check's mathematics -/
theorem x_b169 {σ : Sig} {G : Gd} {k : Int32} {a e : Nat} {x o : Int32} (ha : a ≤ e) (he : e ≤ 500) : f6_readNext_b169 (xg (XB σ k (Int32.ofNat a) (Int32.ofNat e) x o) 10 G) = some (xg (XB σ (if k = 1 then (if e - a ≤ 4 then 1 else 4) else k) (Int32.ofNat a) (Int32.ofNat e) x o) 10 G) := by
  unfold f6_readNext_b169
  simp only [nm_ap, bnd_ap, bns_ap, bnx_ap0, bnx_ap1, bnx_ap2, bnx_ap3, bnx_ap4, gz_0, gz_1, dvd_96, dvd_2, dvd_10000, rmd_96, rmd_8, xg_at, xg_0, mr_at, up_xg, up_mr, narz_0, narz_1, i10, i01, i11, i00, ↓reduceIte, e10, e01, e50, e51, e20, e60, e70, e30, e40, Classical.not_not, not_true_eq_false, not_false_eq_true, up_xg0, XB_42, XB_43, XB_44, XB_u42]
  by_cases c : k = 1
  · rw [if_pos c, if_pos c, ← Int32.ofNat_sub _ _ ha]
    by_cases c2 : e - a ≤ 4
    · rw [if_pos c2, if_pos (by rw [Int32.le_iff_toInt_le, oN _ (by omega), show (4 : Int32).toInt = 4 from rfl]; omega), c]
    · rw [if_neg c2, if_neg (by rw [Int32.le_iff_toInt_le, oN _ (by omega), show (4 : Int32).toInt = 4 from rfl]; omega)]
  · rw [if_neg c, if_neg c]
theorem x_sp_l {T : Nat → Int32} {L : Nat} {σ : Sig} (hT : TX T L σ) (G : Gd) : ∀ (fu p : Nat) (k e x o : Int32), p ≤ L → L < fu + p → f6_readNext_b8 fu (xg (XB σ k (Int32.ofNat p) e x o) 10 G) = f6_readNext_b60 (xg (XB σ k (Int32.ofNat (tA T L p)) e x o) 10 G) := by
  obtain ⟨hL, h5, hb⟩ := hT
  intro fu
  induction fu with
  | zero => intro p k e x o h1 h2; omega
  | succ fu ih =>
    intro p k e x o h1 h2
    have ep := oN p (by omega)
    have eL := oN L (by omega)
    rw [f6_readNext_b8]
    simp only [nm_ap, bnd_ap, bns_ap, bnx_ap0, bnx_ap1, bnx_ap2, bnx_ap3, bnx_ap4, gz_0, gz_1, dvd_96, dvd_2, dvd_10000, rmd_96, rmd_8, xg_at, xg_0, mr_at, up_xg, up_mr, narz_0, narz_1, i10, i01, i11, i00, ↓reduceIte, e10, e01, e50, e51, e20, e60, e70, e30, e40, Classical.not_not, not_true_eq_false, not_false_eq_true, XB_41, XB_43, XB_5, hL]
    by_cases c : L ≤ p
    · rw [if_pos (by rw [Int32.le_iff_toInt_le, ep, eL]; omega), show tA T L p = p from rn_end c]
    · rw [if_neg (by rw [Int32.le_iff_toInt_le, ep, eL]; omega), ald_in (by rw [ep]; omega), ald_in (by rw [ep]; omega)]
      simp only [ep, Int.toNat_natCast]
      have hs := bt_s (hb p (by omega))
      have hr : f6_readNext_b47 (f6_readNext_b8 fu) (xg (XB σ k (Int32.ofNat p) e x o) 10 G) = f6_readNext_b8 fu (xg (XB σ k (Int32.ofNat (p + 1)) e x o) 10 G) := by
        unfold f6_readNext_b47
        simp only [nm_ap, bnd_ap, bns_ap, bnx_ap0, bnx_ap1, bnx_ap2, bnx_ap3, bnx_ap4, gz_0, gz_1, dvd_96, dvd_2, dvd_10000, rmd_96, rmd_8, xg_at, xg_0, mr_at, up_xg, up_mr, narz_0, narz_1, i10, i01, i11, i00, ↓reduceIte, e10, e01, e50, e51, e20, e60, e70, e30, e40, Classical.not_not, not_true_eq_false, not_false_eq_true, up_xg0, XB_43, XB_u43, oN1]
      by_cases c2 : sB (T p) = true
      · have hA : tA T L p = tA T L (p + 1) := rn_step (P := fun i => sB (T i)) (by omega) c2
        rw [hr, ih (p + 1) k e x o (by omega) (by omega), hA]
        rcases hs.mpr c2 with q | q
        · rw [if_pos q]
        · by_cases q0 : σ 0 5 p = 32
          · rw [if_pos q0]
          · rw [if_neg q0, if_pos q]
      · have hA : tA T L p = p := rn_stop (P := fun i => sB (T i)) (by simpa using c2)
        rw [if_neg (fun q => c2 (hs.mp (Or.inl q))), if_neg (fun q => c2 (hs.mp (Or.inr q))), hA]
theorem x_run_l {T : Nat → Int32} {L : Nat} {σ : Sig} (hT : TX T L σ) (G : Gd) {a : Nat} (k : Int32) (hk : k = 0 ∨ k = 1) (x o : Int32) : ∀ (fu p : Nat), a ≤ p → p ≤ L → L < fu + p → f6_readNext_b111 fu (xg (XB σ k (Int32.ofNat a) (Int32.ofNat p) x o) 10 G) = f6_readNext_b169 (xg (XB σ k (Int32.ofNat a) (Int32.ofNat (rn (fun i => if k = 0 then lB (T i) else dB (T i)) (L - p) p)) x o) 10 G) := by
  obtain ⟨hL, h5, hb⟩ := hT
  intro fu
  induction fu with
  | zero => intro p h0 h1 h2; omega
  | succ fu ih =>
    intro p h0 h1 h2
    have ep := oN p (by omega)
    have eL := oN L (by omega)
    rw [f6_readNext_b111]
    have h126 : f6_readNext_b126 (f6_readNext_b111 fu) (xg (XB σ k (Int32.ofNat a) (Int32.ofNat p) x o) 10 G) = f6_readNext_b169 (xg (XB σ k (Int32.ofNat a) (Int32.ofNat (rn (fun i => if k = 0 then lB (T i) else dB (T i)) (L - p) p)) x o) 10 G) := by
      unfold f6_readNext_b126
      simp only [nm_ap, bnd_ap, bns_ap, bnx_ap0, bnx_ap1, bnx_ap2, bnx_ap3, bnx_ap4, gz_0, gz_1, dvd_96, dvd_2, dvd_10000, rmd_96, rmd_8, xg_at, xg_0, mr_at, up_xg, up_mr, narz_0, narz_1, i10, i01, i11, i00, ↓reduceIte, e10, e01, e50, e51, e20, e60, e70, e30, e40, Classical.not_not, not_true_eq_false, not_false_eq_true, up_xg0, XB_41, XB_42, XB_44, XB_5, XB_u44, hL]
      by_cases c : L ≤ p
      · rw [if_pos (by rw [Int32.le_iff_toInt_le, ep, eL]; omega), rn_end c]
      · rw [if_neg (by rw [Int32.le_iff_toInt_le, ep, eL]; omega), ald_in (by rw [ep]; omega)]
        simp only [ep, Int.toNat_natCast, kind_of (hb p (by omega)), bnd_ap, oN1]
        have ihp := ih (p + 1) (by omega) (by omega) (by omega)
        have kd : ∀ y, lB y = true → dB y = false := by
          intro y hy
          unfold lB dB at *
          simp only [Bool.and_eq_true, decide_eq_true_eq] at hy
          simp only [Bool.and_eq_false_iff, decide_eq_false_iff_not]
          omega
        rcases hk with rfl | rfl
        · simp only [↓reduceIte] at ihp ⊢
          by_cases c2 : lB (T p) = true
          · rw [if_pos c2, if_pos rfl, ihp, rn_step (P := fun i => lB (T i)) (by omega) c2]
          · rw [if_neg c2, rn_stop (P := fun i => lB (T i)) (by simpa using c2), if_neg]
            repeat' split
            all_goals decide
        · simp only [e10, ↓reduceIte] at ihp ⊢
          by_cases c2 : dB (T p) = true
          · have c3 : ¬ lB (T p) = true := fun q => by rw [kd _ q] at c2; exact absurd c2 (by decide)
            rw [if_neg c3, if_pos c2, if_pos rfl, ihp, rn_step (P := fun i => dB (T i)) (by omega) c2]
          · rw [rn_stop (P := fun i => dB (T i)) (by simpa using c2), if_neg]
            rw [if_neg c2]
            repeat' split
            all_goals decide
    simp only [nm_ap, bnd_ap, bns_ap, bnx_ap0, bnx_ap1, bnx_ap2, bnx_ap3, bnx_ap4, gz_0, gz_1, dvd_96, dvd_2, dvd_10000, rmd_96, rmd_8, xg_at, xg_0, mr_at, up_xg, up_mr, narz_0, narz_1, i10, i01, i11, i00, ↓reduceIte, e10, e01, e50, e51, e20, e60, e70, e30, e40, Classical.not_not, not_true_eq_false, not_false_eq_true, XB_42]
    rcases hk with rfl | rfl
    · rw [if_pos rfl, h126]
    · rw [if_neg (by decide), if_pos rfl, h126]
theorem x_read {T : Nat → Int32} {L : Nat} {σ : Sig} (hT : TX T L σ) (G : Gd) (k a x o : Int32) {p : Nat} (hp : p ≤ L) : f6_readNext (xg (XB σ k a (Int32.ofNat p) x o) 10 G) = some (xg (XB σ (Int32.ofNat (tK T L p)) (Int32.ofNat (tA T L p)) (Int32.ofNat (tE T L p)) x o) 10 G) := by
  have hTT := hT
  obtain ⟨hL, h5, hb⟩ := hT
  have hA := tA_le T hp
  have hE := tE_le T hp
  have hAE := tEa_ge T L (tA T L p)
  unfold f6_readNext
  simp only [nm_eq, bnd_eq, bns_eq, xg_at, xg_0, mr_at, up_xg, up_mr, ↓reduceIte, e10, e01, e50, e51, e20, e60, e70, e30, e40, Classical.not_not, not_true_eq_false, not_false_eq_true, up_xg0, XB_44, XB_u43]
  rw [x_sp_l hTT G FU p k (Int32.ofNat p) x o hp (by unfold FU; omega)]
  unfold tE tK
  unfold tE at hE
  generalize tA T L p = q at hA hE hAE ⊢
  have eq := oN q (by omega)
  have eL := oN L (by omega)
  unfold f6_readNext_b60
  simp only [nm_eq, bnd_eq, bns_eq, xg_at, xg_0, mr_at, up_xg, up_mr, ↓reduceIte, e10, e01, e50, e51, e20, e60, e70, e30, e40, Classical.not_not, not_true_eq_false, not_false_eq_true, up_xg0, XB_43, XB_44, XB_41, XB_5, XB_u44, XB_u42, XB_u43, hL]
  by_cases c : q = L
  · rw [if_pos (by rw [c]), tKa_end T (by omega)]
    unfold tEa
    rw [if_neg (by omega)]
    rfl
  · rw [if_neg (fun e => c (by have h := congrArg Int32.toInt e; rw [eq, eL] at h; omega)), ald_in (by rw [eq]; omega)]
    simp only [eq, Int.toNat_natCast, kind_of (hb q (by omega)), bnd_eq, oN1]
    have cq : q < L := by omega
    by_cases c2 : lB (T q) = true
    · have e1 : tEa T L q = rn (fun i => lB (T i)) (L - q) q := by unfold tEa; rw [if_pos cq, if_pos c2]
      have e2 : tKa T L q = 0 := by unfold tKa; rw [if_pos cq, if_pos c2]
      rw [rn_step (P := fun i => lB (T i)) cq c2] at e1
      rw [if_pos c2, x_run_l hTT G 0 (Or.inl rfl) x o FU (q + 1) (by omega) (by omega) (by unfold FU; omega)]
      simp only [↓reduceIte]
      rw [← e1, x_b169 hAE (by omega), e2, if_neg (by decide)]
      rfl
    · by_cases c3 : dB (T q) = true
      · have e1 : tEa T L q = rn (fun i => dB (T i)) (L - q) q := by unfold tEa; rw [if_pos cq, if_neg c2, if_pos c3]
        have e2 : tKa T L q = if tEa T L q - q ≤ 4 then 1 else 4 := by unfold tKa; rw [if_pos cq, if_neg c2, if_pos c3]
        rw [rn_step (P := fun i => dB (T i)) cq c3] at e1
        rw [if_neg c2, if_pos c3, x_run_l hTT G 1 (Or.inr rfl) x o FU (q + 1) (by omega) (by omega) (by unfold FU; omega)]
        simp only [e10, ↓reduceIte]
        rw [← e1, x_b169 hAE (by omega), e2, if_pos rfl]
        split <;> rfl
      · have e1 : tEa T L q = q + 1 := by unfold tEa; rw [if_pos cq, if_neg c2, if_neg c3]
        have e2 : tKa T L q = if (T q).toInt = 59 then 2 else 4 := by unfold tKa; rw [if_pos cq, if_neg c2, if_neg c3]
        rw [if_neg c2, if_neg c3, e1, e2]
        rw [show FU = 999 + 1 from rfl, f6_readNext_b111]
        simp only [nm_eq, bnd_eq, bns_eq, xg_at, xg_0, mr_at, up_xg, up_mr, ↓reduceIte, e10, e01, e50, e51, e20, e60, e70, e30, e40, Classical.not_not, not_true_eq_false, not_false_eq_true, XB_42]
        by_cases c4 : (T q).toInt = 59
        · rw [if_pos c4, if_pos c4, if_neg (by decide), if_neg (by decide), x_b169 (by omega) (by omega), if_neg (by decide)]
          rfl
        · rw [if_neg c4, if_neg c4, if_neg (by decide), if_neg (by decide), x_b169 (by omega) (by omega), if_neg (by decide)]
          rfl
/-! the class alone, out of the whole check's mathematics -/
def r0 (r : Nat → Int32) (a e k f x o : Int32) : Nat → Int32 := fun j => if j = 12 then a else if j = 11 then e else if j = 13 then k else if j = 14 then f else if j = 15 then x else if j = 16 then o else r j
/-! the class alone, out of the whole check's mathematics -/
theorem bt_l {x y : Int32} (h : bt x y) (hy : lB y = true ∨ dB y = true) : x = y := by
  unfold lB dB at hy
  simp only [Bool.and_eq_true, decide_eq_true_eq] at hy
  rcases h with h | h
  · exact h.2.2
  · omega
def wm (T : Nat → Int32) (s : List Int32) (a : Nat) : Nat → Nat → Bool
  | 0, _ => true
  | n + 1, i => if T (a + i) = s.getD i 0 then wm T s a n (i + 1) else false
def isw (T : Nat → Int32) (L p : Nat) (s : List Int32) : Bool := decide (tK T L p = 0) && decide (tE T L p - tA T L p = s.length) && wm T s (tA T L p) s.length 0
abbrev XP (T : Nat → Int32) (L : Nat) (σ : Sig) (p : Nat) (x o : Int32) : Sig := XB σ (Int32.ofNat (tK T L p)) (Int32.ofNat (tA T L p)) (Int32.ofNat (tE T L p)) x o
theorem tK_lt (T : Nat → Int32) (L p : Nat) : tK T L p < 5 := by
  unfold tK tKa
  repeat' split
  all_goals decide
theorem kd {k j : Nat} (hk : k < 5) (hj : j < 5) : (Int32.ofNat k = Int32.ofNat j) ↔ k = j := ⟨fun h => by have := congrArg Int32.toInt h; rw [oN k (by omega), oN j (by omega)] at this; omega, fun h => by rw [h]⟩
theorem kd0 (T : Nat → Int32) (L p : Nat) : (Int32.ofNat (tK T L p) = 0) ↔ tK T L p = 0 := kd (j := 0) (tK_lt T L p) (by decide)
theorem kd1 (T : Nat → Int32) (L p : Nat) : (Int32.ofNat (tK T L p) = 1) ↔ tK T L p = 1 := kd (j := 1) (tK_lt T L p) (by decide)
theorem kd2 (T : Nat → Int32) (L p : Nat) : (Int32.ofNat (tK T L p) = 2) ↔ tK T L p = 2 := kd (j := 2) (tK_lt T L p) (by decide)
theorem kd3 (T : Nat → Int32) (L p : Nat) : (Int32.ofNat (tK T L p) = 3) ↔ tK T L p = 3 := kd (j := 3) (tK_lt T L p) (by decide)
theorem strL : ∀ k, k < 30 → (strB k).length < 240 := by decide +kernel
theorem x_word_l {T : Nat → Int32} {L : Nat} {σ : Sig} (hT : TX T L σ) (G : Gd) {p : Nat} (hp : p ≤ L) (x o : Int32) {k : Nat} (h0 : tK T L p = 0) (hl : tE T L p - tA T L p = (strB k).length) : ∀ (fu i : Nat), i ≤ (strB k).length → (strB k).length < fu + i → f6_isWord_b27 k fu (Int32.ofNat i) (xg (XP T L σ p x o) 10 G) = some (if wm T (strB k) (tA T L p) ((strB k).length - i) i = true then 1 else 0) := by
  have h5 := hT.2.1
  have hE := tE_le T hp
  have hg := tEa_ge T L (tA T L p)
  have hw := tEa_word T L (tA T L p) h0
  intro fu
  induction fu with
  | zero => intro i h1 h2; omega
  | succ fu ih =>
    intro i h1 h2
    have hEE : tE T L p = tEa T L (tA T L p) := rfl
    have ei := oN i (by omega)
    have el := oN (strB k).length (by omega)
    rw [f6_isWord_b27]
    simp only [nm_eq, xg_0, XB_43, XB_5, ← Int32.ofNat_add]
    by_cases c : (strB k).length ≤ i
    · rw [if_pos (by rw [Int32.le_iff_toInt_le, el, ei]; omega), show (strB k).length - i = 0 from by omega, wm, if_pos rfl]
    · have ea := oN (tA T L p + i) (by omega)
      rw [if_neg (by rw [Int32.le_iff_toInt_le, el, ei]; omega), ald_in (by rw [ea]; omega), ald_in (by rw [ei]; omega)]
      simp only [ea, ei, Int.toNat_natCast]
      have hq : σ 0 5 (tA T L p + i) = T (tA T L p + i) := bt_l (hT.2.2 _ (by omega)) (Or.inl (hw _ (by omega) (by omega)))
      rw [hq, show (strB k).length - i = ((strB k).length - (i + 1)) + 1 from by omega, wm, show strA k i = (strB k).getD i 0 from rfl]
      by_cases c2 : T (tA T L p + i) = (strB k).getD i 0
      · rw [if_pos c2, if_pos c2, oN1]
        exact ih (i + 1) (by omega) (by omega)
      · rw [if_neg c2, if_neg c2]
        rfl
theorem x_isWord {T : Nat → Int32} {L : Nat} {σ : Sig} (hT : TX T L σ) (G : Gd) {p : Nat} (hp : p ≤ L) (x o : Int32) {k : Nat} (hk : k < 30) : f6_isWord k (xg (XP T L σ p x o) 10 G) = some (if isw T L p (strB k) = true then 1 else 0) := by
  have h5 := hT.2.1
  have hE := tE_le T hp
  have hg := tEa_ge T L (tA T L p)
  have hEE : tE T L p = tEa T L (tA T L p) := rfl
  have hs := strL k hk
  unfold f6_isWord isw
  simp only [nm_eq, xg_0, XB_42, XB_43, XB_44, kd0]
  by_cases c : tK T L p = 0
  · rw [if_pos c]
    rw [← Int32.ofNat_sub _ _ (by omega)]
    by_cases c2 : tE T L p - tA T L p = (strB k).length
    · rw [if_pos (by rw [c2]), show (0 : Int32) = Int32.ofNat 0 from rfl, x_word_l hT G hp x o c c2 FU 0 (by omega) (by unfold FU; omega)]
      simp only [c, c2, decide_true, Bool.true_and, Nat.sub_zero]
      rfl
    · rw [if_neg (fun e => c2 (by have h := congrArg Int32.toInt e; rw [oN _ (by omega), oN _ (by omega)] at h; omega))]
      simp only [c2, decide_false, Bool.false_and, Bool.and_false, Bool.false_eq_true, ↓reduceIte]
  · rw [if_neg c]
    simp only [c, decide_false, Bool.false_and, Bool.false_eq_true, ↓reduceIte]
def ex (x k : Int32) : Int32 := if x = 0 then k else x
def eo (x o a : Int32) : Int32 := if x = 0 then a else o
theorem x_fail (σ : Sig) (G : Gd) (k a e x o c : Int32) : f9_fail c (xg (XB σ k a e x o) 10 G) = some (xg (XB σ k a e (ex x c) (eo x o a)) 10 G) := by
  unfold f9_fail ex eo
  simp only [nm_eq, xg_0, XB_32, XB_43, up_xg0, XB_u32, XB_u33]
  by_cases h : x = 0
  · rw [if_pos h, if_pos h, if_pos h]
  · rw [if_neg h, if_neg h, if_neg h]
theorem x_val_l {T : Nat → Int32} {L : Nat} {σ : Sig} (hT : TX T L σ) (G : Gd) {p : Nat} (hp : p ≤ L) (x o : Int32) (h1 : tK T L p = 1) : ∀ (fu i : Nat), i ≤ tE T L p - tA T L p → tE T L p - tA T L p < fu + i → f6_valueOfNumber_b7 fu (va T (tA T L p) i) (Int32.ofNat (tA T L p + i)) (xg (XP T L σ p x o) 10 G) = some (tV T L p) := by
  have h5 := hT.2.1
  have hE := tE_le T hp
  have hg : tA T L p ≤ tE T L p := tEa_ge T L (tA T L p)
  have hn := (tEa_num T L (tA T L p) h1).2
  intro fu
  induction fu with
  | zero => intro i h1 h2; omega
  | succ fu ih =>
    intro i h1 h2
    have ei := oN (tA T L p + i) (by omega)
    have el := oN (tE T L p) (by omega)
    rw [f6_valueOfNumber_b7]
    simp only [nm_eq, xg_0, XB_44, XB_5, oN1]
    by_cases c : i = tE T L p - tA T L p
    · rw [if_pos (by rw [Int32.le_iff_toInt_le, el, ei]; omega), c]
      rfl
    · rw [if_neg (by rw [Int32.le_iff_toInt_le, el, ei]; omega), ald_in (by rw [ei]; omega)]
      simp only [ei, Int.toNat_natCast]
      have hq : σ 0 5 (tA T L p + i) = T (tA T L p + i) := bt_l (hT.2.2 _ (by omega)) (Or.inr (hn _ (by omega) (show tA T L p + i < tE T L p from by omega)))
      rw [hq]
      exact ih (i + 1) (by omega) (by omega)
theorem x_val {T : Nat → Int32} {L : Nat} {σ : Sig} (hT : TX T L σ) (G : Gd) {p : Nat} (hp : p ≤ L) (x o : Int32) (h1 : tK T L p = 1) : f6_valueOfNumber (xg (XP T L σ p x o) 10 G) = some (tV T L p) := by
  have h4 := (tEa_num T L (tA T L p) h1).1
  have hEE : tE T L p = tEa T L (tA T L p) := rfl
  unfold f6_valueOfNumber
  simp only [nm_eq, xg_0, XB_43]
  exact x_val_l hT G hp x o h1 FU 0 (by omega) (by unfold FU; omega)
theorem x_num {T : Nat → Int32} {L : Nat} {σ : Sig} (hT : TX T L σ) (G : Gd) {p : Nat} (hp : p ≤ L) (lo hi x o : Int32) : f9_numberHere lo hi (xg (XP T L σ p x o) 10 G) = if tK T L p = 1 then (if lo.toInt ≤ (tV T L p).toInt ∧ (tV T L p).toInt ≤ hi.toInt then some (tV T L p, xg (XP T L σ p x o) 10 G) else some (tV T L p, xg (XP T L σ p (ex x 2) (eo x o (Int32.ofNat (tA T L p)))) 10 G)) else some (lo, xg (XP T L σ p (ex x 1) (eo x o (Int32.ofNat (tA T L p)))) 10 G) := by
  unfold f9_numberHere f9_numberHere_b36
  simp only [nm_eq, xg_0, XB_42, kd1, x_fail, bnd_eq]
  by_cases c : tK T L p = 1
  · rw [if_pos c, if_pos c, x_val hT G hp x o c]
    simp only [bnd_eq, Int32.lt_iff_toInt_lt, Int32.le_iff_toInt_le]
    repeat' split
    all_goals first | rfl | (exfalso; omega)
  · rw [if_neg c, if_neg c]
/-! the class alone, out of the whole check's mathematics -/
theorem x_next {T : Nat → Int32} {L : Nat} {σ : Sig} (hT : TX T L σ) (G : Gd) {p : Nat} (hp : p ≤ L) (o : Int32) : f6_readNext (xg (XP T L σ p 0 o) 10 G) = some (xg (XP T L σ (tE T L p) 0 o) 10 G) := x_read hT G _ _ _ _ (tE_le T hp)
theorem x_semi (T : Nat → Int32) (L : Nat) (σ : Sig) (G : Gd) (p : Nat) (x o : Int32) : f9_isAtSemicolon (xg (XP T L σ p x o) 10 G) = if tK T L p = 2 then some (if x = 0 then 1 else 0, xg (XP T L σ p x o) 10 G) else some (0, xg (XP T L σ p (ex x 1) (eo x o (Int32.ofNat (tA T L p)))) 10 G) := by
  unfold f9_isAtSemicolon f9_isAtSemicolon_b16
  simp only [nm_eq, xg_0, XB_42, XB_32, kd2, x_fail, bnd_eq]
  by_cases c : tK T L p = 2
  · rw [if_pos c, if_pos c]
    split <;> rfl
  · rw [if_neg c, if_neg c]
    have : ¬ ex x 1 = 0 := by unfold ex; split <;> first | decide | assumption
    rw [if_neg this]
/-! the class alone, out of the whole check's mathematics -/
theorem x_exec1 (σ : Sig) : f9_executes 1 σ = some (1, σ) := by
  unfold f9_executes
  rw [if_neg (by decide)]
  rfl
theorem e_1 {x : Int32} (h : 0 ≤ x.toInt) : (x - 1).toInt = x.toInt - 1 := tv_sub rfl (show (1 : Int32).toInt = 1 from rfl) (by have := ti_hi x; omega)
/-! the class alone, out of the whole check's mathematics -/
theorem wm_eq {T : Nat → Int32} {s : List Int32} {a : Nat} : ∀ n i, wm T s a n i = true → ∀ j, i ≤ j → j < i + n → T (a + j) = s.getD j 0 := by
  intro n
  induction n with
  | zero => intro i _ j h1 h2; omega
  | succ n ih =>
    intro i h j h1 h2
    rw [wm] at h
    split at h
    · rename_i c
      by_cases e : j = i
      · rw [e]; exact c
      · exact ih (i + 1) h j (by omega) (by omega)
    · exact absurd h (by decide)
theorem isw_inj {T : Nat → Int32} {L p : Nat} {s t : List Int32} (h1 : isw T L p s = true) (h2 : isw T L p t = true) : s = t := by
  unfold isw at h1 h2
  simp only [Bool.and_eq_true, decide_eq_true_eq] at h1 h2
  have hl : s.length = t.length := by omega
  apply List.ext_getElem hl
  intro i i1 i2
  have e1 := wm_eq _ _ h1.2 i (by omega) (by omega)
  have e2 := wm_eq _ _ h2.2 i (by omega) (by omega)
  rw [e1] at e2
  simpa [List.getD, i1, i2] using e2
theorem isw_no {T : Nat → Int32} {L p : Nat} {i j : Nat} (h1 : isw T L p (strB i) = true) (hd : ¬ strB i = strB j) : isw T L p (strB j) = false := by
  cases h : isw T L p (strB j) with
  | false => rfl
  | true => exact absurd (isw_inj h1 h) hd
theorem strD : ∀ i, i < 14 → ∀ j, j < 14 → strB i = strB j → i = j := by decide +kernel
