/-! THE MATHEMATICS, 19: bytes come in, and go out -/
theorem narb (v : Int32) : vp_nar .byte v = v.toInt8.toInt32 := by first | rfl | simp [vp_nar, narrow]
theorem and255 (v : Int32) : (v &&& 255).toInt = v.toInt % 256 := by
  have h : (v &&& 255).toBitVec.toNat = v.toBitVec.toNat % 256 := by
    show (v.toBitVec &&& 255#32).toNat = _
    rw [BitVec.toNat_and, show (255#32).toNat = 2 ^ 8 - 1 from rfl, Nat.and_two_pow_sub_one_eq_mod]
  have e1 : (v &&& 255).toInt = ((v &&& 255).toBitVec.toNat : Int) := by
    rw [← Int32.toInt_toBitVec, BitVec.toInt_eq_toNat_of_lt (by rw [h]; omega)]
  have e2 : v.toInt = v.toBitVec.toNat ∨ v.toInt = (v.toBitVec.toNat : Int) - 4294967296 := by
    rw [← Int32.toInt_toBitVec, BitVec.toInt_eq_toNat_cond]
    split
    · left; rfl
    · right; rfl
  rw [e1, h]
  omega
theorem bt_low (v : Int32) : bt (vp_nar .byte v.toInt8.toInt32) (v &&& 255) := by
  have h1 := and255 v
  have h2 : (vp_nar .byte v.toInt8.toInt32).toInt = v.toInt.bmod 256 := by
    rw [narb]
    simp
  have h3 : v.toInt.bmod 256 = if v.toInt % 256 < 128 then v.toInt % 256 else v.toInt % 256 - 256 := by
    rw [Int.bmod_def]; rfl
  unfold bt
  by_cases c : v.toInt % 256 < 128
  · left
    rw [if_pos c] at h3
    exact ⟨by omega, by omega, ti_ext (by rw [h2, h3, h1])⟩
  · right
    rw [if_neg c] at h3
    exact ⟨by omega, by omega, by omega⟩
/-- k bytes came in -/
def AD (σ τ σ' τ' : Sig) (k : Int) : Prop := INr σ' τ' ∧ (τ' 0 0 8).toInt = (τ 0 0 8).toInt + k ∧ (∀ g c, ¬ (g = 0 ∧ (c = 4 ∨ c = 5)) → σ' g c = σ g c) ∧ (∀ g c, ¬ (g = 0 ∧ (c = 0 ∨ c = 5)) → τ' g c = τ g c) ∧ ∀ j, ¬ j = 8 → τ' 0 0 j = τ 0 0 j
theorem AD.trans {a b a' b' a2 b2 : Sig} {k m : Int} (h : AD a b a' b' k) (h2 : AD a' b' a2 b2 m) : AD a b a2 b2 (k + m) :=
  ⟨h2.1, by rw [h2.2.1, h.2.1]; omega, fun g c hg => by rw [h2.2.2.1 g c hg, h.2.2.1 g c hg], fun g c hg => by rw [h2.2.2.2.1 g c hg, h.2.2.2.1 g c hg], fun j hj => by rw [h2.2.2.2.2 j hj, h.2.2.2.2 j hj]⟩
theorem AD.rl {σ τ σ' τ' : Sig} {k : Int} (h : Rl σ τ) (a : AD σ τ σ' τ' k) : Rl σ' τ' := by
  obtain ⟨a1, a2, a3, a4, a5⟩ := a
  obtain ⟨h1, h2, h3, h4, h5, h6⟩ := h
  have fx : ∀ n, σ' (n + 1) = σ (n + 1) := fun n => funext fun c => a3 _ _ (by omega)
  refine ⟨?_, h2.keep (a3 0 1 (by decide)) (fun n _ => fx n) (a5 3 (by decide)) (a4 0 2 (by decide)) (fun c _ _ => a4 0 c (by omega)), ?_, a1, ?_, ?_⟩
  · rw [show σ' 9 = σ 9 from fx 8, a4 0 1 (by decide)]; exact h1
  · unfold SNr at h3 ⊢
    rw [a3 0 0 (by decide), show σ' 10 = σ 10 from fx 9, a5 5 (by decide), a4 0 3 (by decide)]; exact h3
  · unfold ERr at h5 ⊢
    rw [a3 0 3 (by decide), a5 17 (by decide), a5 18 (by decide)]; exact h5
  · unfold RPr at h6 ⊢
    rw [a3 0 6 (by decide), a3 0 7 (by decide), a5 10 (by decide), a4 0 6 (by decide)]; exact h6
theorem byte_in {σ τ : Sig} (h : INr σ τ) (hl : (τ 0 0 8).toInt < 500) {x y : Int32} (hb : bt x y) : AD σ τ (up (up σ 0 5 (τ 0 0 8).toInt.toNat x) 0 4 1 (τ 0 0 8 + 1)) (up (up τ 0 5 (τ 0 0 8).toInt.toNat y) 0 0 8 (τ 0 0 8 + 1)) 1 := by
  obtain ⟨h1, h2, h3, h4⟩ := h
  have e1 : (τ 0 0 8 + 1).toInt = (τ 0 0 8).toInt + 1 := tv_add rfl (show (1 : Int32).toInt = 1 from rfl) (by omega)
  refine ⟨⟨?_, ?_, ?_, fun i hi => ?_⟩, ?_, fun g c hg => ?_, fun g c hg => ?_, fun j hj => ?_⟩
  · rw [up_self, upd_at, up_self, upd_at]
  · rw [up_self, upd_at]; omega
  · rw [up_self, upd_at]; omega
  · rw [up_self, upd_at] at hi
    rw [up_ne _ _ _ (by omega), up_self, up_ne _ _ _ (by omega), up_self]
    by_cases e : i = (τ 0 0 8).toInt.toNat
    · rw [e, upd_at, upd_at]; exact hb
    · rw [upd_ne _ _ e, upd_ne _ _ e]
      exact h4 i (by omega)
  · rw [up_self, upd_at, e1]
  · rw [up_ne _ _ _ (by omega), up_ne _ _ _ (by omega)]
  · rw [up_ne _ _ _ (by omega), up_ne _ _ _ (by omega)]
  · rw [up_self, upd_ne _ _ hj, up_ne _ _ _ (by omega)]
theorem word_step {σ τ : Sig} (h : INr σ τ) (hl : (τ 0 0 8).toInt < 500) (x s : Int32) (hs : 0 ≤ s.toInt) : ∃ σ1 τ1, (∀ fu, f6_addWord_b3 (fu + 1) x s σ = f6_addWord_b3 fu x (s + (-8)) σ1) ∧ (∀ fu, f12_type_b3 (fu + 1) x s τ = f12_type_b3 fu x (s + (-8)) τ1) ∧ AD σ τ σ1 τ1 1 := by
  have i1 := h.1
  have i2 := h.2.1
  have e0 : (0 : Int32).toInt = 0 := rfl
  have e5 : (500 : Int32).toInt = 500 := rfl
  have c1 : ¬ s < 0 := by rw [Int32.lt_iff_toInt_lt, e0]; omega
  have c2 : ¬ (500 : Int32) ≤ τ 0 0 8 := by rw [Int32.le_iff_toInt_le, e5]; omega
  have ix : 0 ≤ (τ 0 0 8).toInt ∧ (τ 0 0 8).toInt < ((500 : Nat) : Int) := by omega
  refine ⟨_, _, fun fu => ?_, fun fu => ?_, byte_in h hl (bt_low ((x.toUInt32 >>> (s.toUInt32 &&& Int32.toUInt32 31)).toInt32))⟩
  · rw [f6_addWord_b3]
    simp only [nm_ap, if_neg c1, i1, if_neg c2, ast_in ix]
    rw [show up σ 0 5 (τ 0 0 8).toInt.toNat (vp_nar .byte (x.toUInt32 >>> (s.toUInt32 &&& Int32.toUInt32 31)).toInt32.toInt8.toInt32) 0 4 1 = τ 0 0 8 from by rw [up_ne _ _ _ (by decide), i1]]
  · rw [f12_type_b3]
    simp only [nm_ap, if_neg c1, ast_in ix]
    rw [show up τ 0 5 (τ 0 0 8).toInt.toNat ((x.toUInt32 >>> (s.toUInt32 &&& Int32.toUInt32 31)).toInt32 &&& 255) 0 0 8 = τ 0 0 8 from by rw [up_ne _ _ _ (by decide)]]
theorem word_ok {σ τ : Sig} (h : INr σ τ) (hl : (τ 0 0 8).toInt + 4 ≤ 500) (x : Int32) : ∃ σ' τ', f6_addWord x σ = some σ' ∧ f12_type x τ = some τ' ∧ AD σ τ σ' τ' 4 := by
  obtain ⟨s1, t1, p1, q1, a1⟩ := word_step h (by omega) x 24 (by decide)
  obtain ⟨s2, t2, p2, q2, a2⟩ := word_step a1.1 (by rw [a1.2.1]; omega) x 16 (by decide)
  obtain ⟨s3, t3, p3, q3, a3⟩ := word_step a2.1 (by rw [a2.2.1, a1.2.1]; omega) x 8 (by decide)
  obtain ⟨s4, t4, p4, q4, a4⟩ := word_step a3.1 (by rw [a3.2.1, a2.2.1, a1.2.1]; omega) x 0 (by decide)
  have k1 : (24 : Int32) + (-8) = 16 := by decide
  have k2 : (16 : Int32) + (-8) = 8 := by decide
  have k3 : (8 : Int32) + (-8) = 0 := by decide
  rw [k1] at p1 q1
  rw [k2] at p2 q2
  rw [k3] at p3 q3
  refine ⟨s4, t4, ?_, ?_, ((a1.trans a2).trans a3).trans a4⟩
  · show f6_addWord_b3 (995 + 1 + 1 + 1 + 1 + 1) x 24 σ = some s4
    rw [p1, p2, p3, p4, f6_addWord_b3, if_pos (by decide)]
  · show f12_type_b3 (995 + 1 + 1 + 1 + 1 + 1) x 24 τ = some t4
    rw [q1, q2, q3, q4, f12_type_b3, if_pos (by decide)]
theorem ok_append {σ τ : Sig} (a b c d e : Int32) (h : Rl σ τ) : OKi (f11_append a b c d e σ) (f12_append a b c d e τ) := by
  have h0 := h.th 0
  have hin := h0.2.2.2.1
  have i1 := hin.1
  have i2 := hin.2.1
  have i3 := hin.2.2.1
  have e20 : (up τ 0 0 0 0 0 0 8 + 20).toInt = (up τ 0 0 0 0 0 0 8).toInt + 20 := tv_add rfl (show (20 : Int32).toInt = 20 from rfl) (by omega)
  have e5 : (500 : Int32).toInt = 500 := rfl
  unfold f11_append f12_append
  simp only [nm_ap, i1]
  by_cases c1 : (up τ 0 0 0 0 0 0 8).toInt + 20 ≤ 500
  · have c1' : up τ 0 0 0 0 0 0 8 + 20 ≤ 500 := by rw [Int32.le_iff_toInt_le, e20, e5]; exact c1
    rw [if_pos c1', if_pos c1']
    obtain ⟨s1, t1, p1, q1, a1⟩ := word_ok hin (by omega) a
    obtain ⟨s2, t2, p2, q2, a2⟩ := word_ok a1.1 (by rw [a1.2.1]; omega) b
    obtain ⟨s3, t3, p3, q3, a3⟩ := word_ok a2.1 (by rw [a2.2.1, a1.2.1]; omega) c
    obtain ⟨s4, t4, p4, q4, a4⟩ := word_ok a3.1 (by rw [a3.2.1, a2.2.1, a1.2.1]; omega) d
    obtain ⟨s5, t5, p5, q5, a5⟩ := word_ok a4.1 (by rw [a4.2.1, a3.2.1, a2.2.1, a1.2.1]; omega) e
    simp only [p1, p2, p3, p4, p5, q1, q2, q3, q4, q5, bnd_ap]
    have hz := a5.1.1
    rw [hz]
    exact ⟨_, _, _, rfl, rfl, AD.rl h0 ((((a1.trans a2).trans a3).trans a4).trans a5)⟩
  · have c1' : ¬ up τ 0 0 0 0 0 0 8 + 20 ≤ 500 := by rw [Int32.le_iff_toInt_le, e20, e5]; exact c1
    rw [if_neg c1', if_neg c1']
    exact ⟨_, _, _, rfl, rfl, h0⟩
-- a report
def ltr (G : Gd) (p : Nat) : Nat → Int32 := fun i => if (G 22 p >>> (Int32.ofNat i &&& 31)) &&& 1 = 1 then 120 else if Td G ≤ G 16 p + Int32.ofNat i then 46 else 45
theorem ltr_nar (G : Gd) (p i : Nat) : vp_nar .byte (ltr G p i).toInt8.toInt32 = ltr G p i := by
  rw [narb]
  unfold ltr
  split
  · rfl
  · split <;> rfl
theorem ur_xg0 (σ : Sig) (n : Nat) (G : Gd) (c : Nat) (f : Nat → Int32) : ur (xg σ n G) 0 c f = xg (ur σ 0 c f) n G := by
  funext g c'
  unfold ur xg
  by_cases h : g = n + 1
  · subst h; simp
  · by_cases h2 : g = 0 ∧ c' = c
    · obtain ⟨rfl, rfl⟩ := h2; simp
    · simp [h, h2]
theorem ur_mr0 (τ : Sig) (w : Rw) {c : Nat} (hc : ¬ c = 1) (f : Nat → Int32) : ur (mr τ w) 0 c f = mr (ur τ 0 c f) w := by
  funext g c'
  unfold ur mr
  by_cases h : g = 0 ∧ c' = 1
  · obtain ⟨rfl, rfl⟩ := h
    rw [if_neg (by omega), if_pos ⟨rfl, rfl⟩, if_pos ⟨rfl, rfl⟩]
  · rw [if_neg h, if_neg h]
theorem up_urc (σ : Sig) (c j : Nat) (f : Nat → Int32) (v : Int32) : up (ur σ 0 c f) 0 c j v = ur σ 0 c (upd f j v) := by
  funext g c'
  unfold up ur
  by_cases h : g = 0 ∧ c' = c
  · obtain ⟨rfl, rfl⟩ := h; simp
  · simp [h]
theorem ur_selfc (σ : Sig) (c : Nat) : ur σ 0 c (σ 0 c) = σ := by
  funext g c'
  unfold ur
  split
  · rename_i h; rw [h.1, h.2]
  · rfl
theorem x_letter {σ : Sig} {G : Gd} (hi : Iv G) {p : Int32} (hp : 0 ≤ p.toInt ∧ p.toInt < 30) (i : Nat) : f8_letterOfDay 8 p (Int32.ofNat i) (Td G) (xg σ 8 G) = some (ltr G p.toInt.toNat i) := by
  have hp30 : 0 ≤ p.toInt ∧ p.toInt < ((30 : Nat) : Int) := hp
  unfold f8_letterOfDay f7_isUsed ltr
  simp only [nm_ap, bnd_ap, bns_ap, bnx_ap0, bnx_ap1, bnx_ap2, bnx_ap3, bnx_ap4, gz_0, gz_1, dvd_96, dvd_2, dvd_10000, rmd_96, rmd_8, xg_at, xg_0, mr_at, up_xg, up_mr, narz_0, narz_1, i10, i01, i11, i00, ↓reduceIte, e10, e01, e50, e51, e20, e60, e70, e30, e40, Classical.not_not, not_true_eq_false, not_false_eq_true, ald_in hp30]
  rcases and1 (G 22 p.toInt.toNat >>> (Int32.ofNat i &&& 31)) with h | h
  · simp only [h, nm_ap, bnd_ap, bns_ap, bnx_ap0, bnx_ap1, bnx_ap2, bnx_ap3, bnx_ap4, gz_0, gz_1, dvd_96, dvd_2, dvd_10000, rmd_96, rmd_8, xg_at, xg_0, mr_at, up_xg, up_mr, narz_0, narz_1, i10, i01, i11, i00, ↓reduceIte, e10, e01, e50, e51, e20, e60, e70, e30, e40, Classical.not_not, not_true_eq_false, not_false_eq_true]
    split <;> rfl
  · simp only [h, nm_ap, bnd_ap, bns_ap, bnx_ap0, bnx_ap1, bnx_ap2, bnx_ap3, bnx_ap4, gz_0, gz_1, dvd_96, dvd_2, dvd_10000, rmd_96, rmd_8, xg_at, xg_0, mr_at, up_xg, up_mr, narz_0, narz_1, i10, i01, i11, i00, ↓reduceIte, e10, e01, e50, e51, e20, e60, e70, e30, e40, Classical.not_not, not_true_eq_false, not_false_eq_true]
theorem m_letter {G : Gd} {w : Rw} (hg : GP G w) (τ : Sig) {p : Int32} (hp : 0 ≤ p.toInt ∧ p.toInt < (G 4 0).toInt) (i : Nat) : f12_signOf p (Int32.ofNat i) (mr τ w) = some (ltr G p.toInt.toNat i) := by
  have h0 := hg.2.1
  have hp3 : 0 ≤ p.toInt ∧ p.toInt < 30 := by omega
  have hn : ((p.toInt.toNat : Nat) : Int) < (G 4 0).toInt := by omega
  unfold f12_signOf ltr
  simp only [nm_ap, bnd_ap, bns_ap, bnx_ap0, bnx_ap1, bnx_ap2, bnx_ap3, bnx_ap4, gz_0, gz_1, dvd_96, dvd_2, dvd_10000, rmd_96, rmd_8, xg_at, xg_0, mr_at, up_xg, up_mr, narz_0, narz_1, i10, i01, i11, i00, ↓reduceIte, e10, e01, e50, e51, e20, e60, e70, e30, e40, Classical.not_not, not_true_eq_false, not_false_eq_true, mo_7 hp3, mo_1 hp3, hg.1.p7 hn, hg.1.p1 hn, m_today hg.1]
  split
  · rfl
  · split <;> rfl
theorem x_write_l {σ : Sig} {G : Gd} (hi : Iv G) {p : Int32} (hp : 0 ≤ p.toInt ∧ p.toInt < 30) {D : Nat} (hD : σ 0 6 1 = Int32.ofNat D) (hD14 : D ≤ 14) (f : Nat → Int32) : ∀ (fu k : Nat), k ≤ D → D < fu + k → f8_writeDays_b13 8 fu p (Td G) (Int32.ofNat k) (xg (ur σ 0 7 (cpl k (ltr G p.toInt.toNat) f)) 8 G) = some (xg (ur σ 0 7 (cpl D (ltr G p.toInt.toNat) f)) 8 G) := by
  intro fu
  induction fu with
  | zero => intro k h1 h2; omega
  | succ fu ih =>
    intro k h1 h2
    have ek := oN k (by omega)
    have eD := oN D (by omega)
    have e6 : ur σ 0 7 (cpl k (ltr G p.toInt.toNat) f) 0 6 1 = Int32.ofNat D := by rw [ur_ne _ _ (by decide), hD]
    rw [f8_writeDays_b13]
    simp only [nm_ap, bnd_ap, bns_ap, bnx_ap0, bnx_ap1, bnx_ap2, bnx_ap3, bnx_ap4, gz_0, gz_1, dvd_96, dvd_2, dvd_10000, rmd_96, rmd_8, xg_at, xg_0, mr_at, up_xg, up_mr, narz_0, narz_1, i10, i01, i11, i00, ↓reduceIte, e10, e01, e50, e51, e20, e60, e70, e30, e40, Classical.not_not, not_true_eq_false, not_false_eq_true, e6]
    by_cases hk : k = D
    · rw [if_pos (by rw [Int32.le_iff_toInt_le, ek, eD]; omega), hk]
    · rw [if_neg (by rw [Int32.le_iff_toInt_le, ek, eD]; omega), x_letter hi hp]
      simp only [nm_ap, bnd_ap, bns_ap, bnx_ap0, bnx_ap1, bnx_ap2, bnx_ap3, bnx_ap4, gz_0, gz_1, dvd_96, dvd_2, dvd_10000, rmd_96, rmd_8, xg_at, xg_0, mr_at, up_xg, up_mr, narz_0, narz_1, i10, i01, i11, i00, ↓reduceIte, e10, e01, e50, e51, e20, e60, e70, e30, e40, Classical.not_not, not_true_eq_false, not_false_eq_true, ltr_nar]
      rw [ast_in (by rw [ek]; omega), ek]
      simp only [nm_ap, bnd_ap, bns_ap, bnx_ap0, bnx_ap1, bnx_ap2, bnx_ap3, bnx_ap4, gz_0, gz_1, dvd_96, dvd_2, dvd_10000, rmd_96, rmd_8, xg_at, xg_0, mr_at, up_xg, up_mr, narz_0, narz_1, i10, i01, i11, i00, ↓reduceIte, e10, e01, e50, e51, e20, e60, e70, e30, e40, Classical.not_not, not_true_eq_false, not_false_eq_true, Int.toNat_natCast, up_xg0, up_urc, cpl_s, oN1]
      exact ih (k + 1) (by omega) (by omega)
theorem m_write_l {τ : Sig} {G : Gd} {w : Rw} (hg : GP G w) {p : Int32} (hp : 0 ≤ p.toInt ∧ p.toInt < (G 4 0).toInt) {D : Nat} (hD : τ 0 0 10 = Int32.ofNat D) (hD14 : D ≤ 14) (f : Nat → Int32) : ∀ (fu k : Nat), k ≤ D → D < fu + k → f12_writePass_b27 fu p (Int32.ofNat k) (mr (ur τ 0 6 (cpl k (ltr G p.toInt.toNat) f)) w) = some (Int32.ofNat D, mr (ur τ 0 6 (cpl D (ltr G p.toInt.toNat) f)) w) := by
  intro fu
  induction fu with
  | zero => intro k h1 h2; omega
  | succ fu ih =>
    intro k h1 h2
    have ek := oN k (by omega)
    have eD := oN D (by omega)
    have e6 : ur τ 0 6 (cpl k (ltr G p.toInt.toNat) f) 0 0 10 = Int32.ofNat D := by rw [ur_ne _ _ (by decide), hD]
    rw [f12_writePass_b27]
    simp only [nm_ap, th_mr, e6]
    by_cases hk : k = D
    · rw [if_pos (by rw [Int32.le_iff_toInt_le, ek, eD]; omega), hk]
    · rw [if_neg (by rw [Int32.le_iff_toInt_le, ek, eD]; omega), m_letter hg _ hp]
      simp only [nm_ap, bnd_ap, bns_ap, bnx_ap0, bnx_ap1, bnx_ap2, bnx_ap3, bnx_ap4, gz_0, gz_1, dvd_96, dvd_2, dvd_10000, rmd_96, rmd_8, xg_at, xg_0, mr_at, up_xg, up_mr, narz_0, narz_1, i10, i01, i11, i00, ↓reduceIte, e10, e01, e50, e51, e20, e60, e70, e30, e40, Classical.not_not, not_true_eq_false, not_false_eq_true, ltr_nar]
      rw [ast_in (by rw [ek]; omega), ek]
      have eu : up (mr (ur τ 0 6 (cpl k (ltr G p.toInt.toNat) f)) w) 0 6 k (ltr G p.toInt.toNat k) = mr (ur τ 0 6 (cpl (k + 1) (ltr G p.toInt.toNat) f)) w := by
        rw [← ur_mr0 _ _ (by decide), up_urc, cpl_s, ur_mr0 _ _ (by decide)]
      simp only [Int.toNat_natCast, eu, oN1]
      exact ih (k + 1) (by omega) (by omega)
theorem ok_writePass {σ τ : Sig} {G : Gd} {w : Rw} (a : Int32) (h : Rl (xg σ 8 G) (mr τ w)) : OKx [2] (f11_writePass a (xg σ 8 G)) (f12_writePass a (mr τ w)) := by
  have hg := h.gp
  have h0 := hg.2.1
  unfold f11_writePass f12_writePass
  simp only [nm_ap, up_mr0, x_pass, m_noPass hg]
  by_cases c1 : 0 ≤ a.toInt ∧ a.toInt < (G 4 0).toInt
  · have an : ((a.toInt.toNat : Nat) : Int) < (G 4 0).toInt := by omega
    have am : 0 ≤ a.toInt ∧ a.toInt < 30 := by omega
    have ax : 0 ≤ a.toInt ∧ a.toInt < ((30 : Nat) : Int) := am
    have hp := hg.2.p an
    have eD : G 17 a.toInt.toNat = Int32.ofNat (G 17 a.toInt.toNat).toInt.toNat := ti_ext (by rw [oN _ (by omega)]; omega)
    have qx := x_write_l (σ := up σ 0 6 1 (G 17 a.toInt.toNat)) hg.2 am (D := (G 17 a.toInt.toNat).toInt.toNat) (by rw [up_self, upd_at]; exact eD) (by omega) (σ 0 7) FU 0 (by omega) (by unfold FU; omega)
    have qm := m_write_l (τ := up (up τ 0 0 0 0) 0 0 10 (G 17 a.toInt.toNat)) hg c1 (D := (G 17 a.toInt.toNat).toInt.toNat) (by rw [up_self, upd_at]; exact eD) (by omega) (τ 0 6) FU 0 (by omega) (by unfold FU; omega)
    rw [cpl_0, show ur (up σ 0 6 1 (G 17 a.toInt.toNat)) 0 7 (σ 0 7) = up σ 0 6 1 (G 17 a.toInt.toNat) from by
      have := ur_selfc (up σ 0 6 1 (G 17 a.toInt.toNat)) 7
      rw [up_ne σ 1 (G 17 a.toInt.toNat) (by decide : ¬ (0 = 0 ∧ 7 = 6))] at this
      exact this] at qx
    rw [cpl_0, show ur (up (up τ 0 0 0 0) 0 0 10 (G 17 a.toInt.toNat)) 0 6 (τ 0 6) = up (up τ 0 0 0 0) 0 0 10 (G 17 a.toInt.toNat) from by
      have := ur_selfc (up (up τ 0 0 0 0) 0 0 10 (G 17 a.toInt.toNat)) 6
      rw [up_ne _ 10 (G 17 a.toInt.toNat) (by decide : ¬ (0 = 0 ∧ 6 = 0)), up_ne _ 0 0 (by decide : ¬ (0 = 0 ∧ 6 = 0))] at this
      exact this, ← eD] at qm
    have qx' : f8_writeDays_b13 8 FU a (Td G) 0 (xg (up σ 0 6 1 (G 17 a.toInt.toNat)) 8 G) = _ := qx
    have qm' : f12_writePass_b27 FU a 0 (mr (up (up τ 0 0 0 0) 0 0 10 (G 17 a.toInt.toNat)) w) = _ := qm
    unfold f8_writeDays
    simp only [if_pos c1, nm_ap, bnd_ap, bns_ap, bnx_ap0, bnx_ap1, bnx_ap2, bnx_ap3, bnx_ap4, gz_0, gz_1, dvd_96, dvd_2, dvd_10000, rmd_96, rmd_8, xg_at, xg_0, mr_at, up_xg, up_mr, narz_0, narz_1, i10, i01, i11, i00, ↓reduceIte, e10, e01, e50, e51, e20, e60, e70, e30, e40, Classical.not_not, not_true_eq_false, not_false_eq_true, x_range, m_outside, Int32.reduceToInt, x_state, m_raise0, m_raise1, up_mr0, ite_not, x_today, ald_in ax, up_xg0, qx', mo_2 am, hg.1.p2 an, qm']
    have l1 : ur (up σ 0 6 1 (G 17 a.toInt.toNat)) 0 7 (cpl (G 17 a.toInt.toNat).toInt.toNat (ltr G a.toInt.toNat) (σ 0 7)) 0 6 1 = G 17 a.toInt.toNat := by rw [ur_ne _ _ (by decide), up_self, upd_at]
    rw [l1]
    have fx : ∀ c, ¬ c = 6 → ¬ c = 7 → ur (up σ 0 6 1 (G 17 a.toInt.toNat)) 0 7 (cpl (G 17 a.toInt.toNat).toInt.toNat (ltr G a.toInt.toNat) (σ 0 7)) 0 c = σ 0 c := fun c h6 h7 => by rw [ur_ne _ _ (by omega), up_ne _ _ _ (by omega)]
    have fn : ∀ n, ur (up σ 0 6 1 (G 17 a.toInt.toNat)) 0 7 (cpl (G 17 a.toInt.toNat).toInt.toNat (ltr G a.toInt.toNat) (σ 0 7)) (n + 1) = σ (n + 1) := fun n => funext fun c => by rw [ur_ne _ _ (by omega), up_ne _ _ _ (by omega)]
    have f7 : ur (up σ 0 6 1 (G 17 a.toInt.toNat)) 0 7 (cpl (G 17 a.toInt.toNat).toInt.toNat (ltr G a.toInt.toNat) (σ 0 7)) 0 7 = cpl (G 17 a.toInt.toNat).toInt.toNat (ltr G a.toInt.toNat) (σ 0 7) := ur_self _ _ _ _
    generalize ur (up σ 0 6 1 (G 17 a.toInt.toNat)) 0 7 (cpl (G 17 a.toInt.toNat).toInt.toNat (ltr G a.toInt.toNat) (σ 0 7)) = σ2 at l1 fx fn f7 ⊢
    have tx : ∀ c, ¬ c = 0 → ¬ c = 6 → ur (up (up τ 0 0 0 0) 0 0 10 (G 17 a.toInt.toNat)) 0 6 (cpl (G 17 a.toInt.toNat).toInt.toNat (ltr G a.toInt.toNat) (τ 0 6)) 0 c = τ 0 c := fun c h0 h6 => by rw [ur_ne _ _ (by omega), up_ne _ _ _ (by omega), up_ne _ _ _ (by omega)]
    have tj : ∀ j, ¬ j = 0 → ¬ j = 10 → ur (up (up τ 0 0 0 0) 0 0 10 (G 17 a.toInt.toNat)) 0 6 (cpl (G 17 a.toInt.toNat).toInt.toNat (ltr G a.toInt.toNat) (τ 0 6)) 0 0 j = τ 0 0 j := fun j h0 h1 => by rw [ur_ne _ _ (by decide), up_self, upd_ne _ _ h1, th_ne _ _ h0]
    have t10 : ur (up (up τ 0 0 0 0) 0 0 10 (G 17 a.toInt.toNat)) 0 6 (cpl (G 17 a.toInt.toNat).toInt.toNat (ltr G a.toInt.toNat) (τ 0 6)) 0 0 10 = G 17 a.toInt.toNat := by rw [ur_ne _ _ (by decide), up_self, upd_at]
    have t0 : ur (up (up τ 0 0 0 0) 0 0 10 (G 17 a.toInt.toNat)) 0 6 (cpl (G 17 a.toInt.toNat).toInt.toNat (ltr G a.toInt.toNat) (τ 0 6)) 0 0 0 = 0 := by rw [ur_ne _ _ (by decide), up_self, upd_ne _ _ (by decide), th_at]
    have t6 : ur (up (up τ 0 0 0 0) 0 0 10 (G 17 a.toInt.toNat)) 0 6 (cpl (G 17 a.toInt.toNat).toInt.toNat (ltr G a.toInt.toNat) (τ 0 6)) 0 6 = cpl (G 17 a.toInt.toNat).toInt.toNat (ltr G a.toInt.toNat) (τ 0 6) := ur_self _ _ _ _
    generalize ur (up (up τ 0 0 0 0) 0 0 10 (G 17 a.toInt.toNat)) 0 6 (cpl (G 17 a.toInt.toNat).toInt.toNat (ltr G a.toInt.toNat) (τ 0 6)) = τ2 at tx tj t10 t0 t6 ⊢
    refine OKx.good ?_ (by rw [th_mr, t0])
    have b : ∀ (τ : Sig) c, ¬ c = 1 → mr τ w 0 c = τ 0 c := fun τ c hc => mr_ne τ w (by omega)
    have a8 : ∀ (σ : Sig) n, ¬ n = 8 → xg σ 8 G (n + 1) = σ (n + 1) := fun σ n hn => funext fun c => xg_ne σ G c (by omega)
    obtain ⟨h1, h2, h3, h4, h5, h6⟩ := h
    refine ⟨?_, h2.keep ?_ (fun n hn => ?_) ?_ ?_ (fun c h7 h15 => ?_), ?_, ?_, ?_, ?_⟩
    · rw [mr_at, show xg σ2 8 G 9 = G from funext (fun c => xg_at σ2 8 G c)]; exact hg
    · funext j; rw [xg_0, xg_0, fx 1 (by decide) (by decide)]
    · rw [a8 _ n (by omega), a8 _ n (by omega), fn]
    · rw [th_mr, th_mr, tj 3 (by decide) (by decide)]
    · rw [b _ 2 (by decide), b _ 2 (by decide), tx 2 (by decide) (by decide)]
    · rw [b _ c (by omega), b _ c (by omega), tx c (by omega) (by omega)]
    · unfold SNr at h3 ⊢
      rw [xg_0, th_mr, b _ 3 (by decide), show xg σ 8 G 10 = σ 10 from a8 σ 9 (by decide)] at h3
      rw [xg_0, th_mr, b _ 3 (by decide), show xg σ2 8 G 10 = σ2 10 from a8 σ2 9 (by decide), fx 0 (by decide) (by decide), tj 5 (by decide) (by decide), show σ2 10 = σ 10 from fn 9, tx 3 (by decide) (by decide)]
      exact h3
    · unfold INr at h4 ⊢
      rw [xg_0, xg_0, th_mr, b _ 5 (by decide)] at h4
      rw [xg_0, xg_0, th_mr, b _ 5 (by decide), fx 4 (by decide) (by decide), fx 5 (by decide) (by decide), tj 8 (by decide) (by decide), tx 5 (by decide) (by decide)]
      exact h4
    · unfold ERr at h5 ⊢
      rw [xg_0, th_mr] at h5
      rw [xg_0, th_mr, fx 3 (by decide) (by decide), tj 17 (by decide) (by decide), tj 18 (by decide) (by decide)]
      exact h5
    · unfold RPr
      rw [xg_0, xg_0, th_mr, b _ 6 (by decide), l1, t10, f7, t6]
      exact ⟨rfl, by omega, by omega, fun i hi => by rw [cpl_lt _ _ (by omega), cpl_lt _ _ (by omega)]⟩
  · simp only [if_neg c1, nm_ap, bnd_ap, bns_ap, bnx_ap0, bnx_ap1, bnx_ap2, bnx_ap3, bnx_ap4, gz_0, gz_1, dvd_96, dvd_2, dvd_10000, rmd_96, rmd_8, xg_at, xg_0, mr_at, up_xg, up_mr, narz_0, narz_1, i10, i01, i11, i00, ↓reduceIte, e10, e01, e50, e51, e20, e60, e70, e30, e40, Classical.not_not, not_true_eq_false, not_false_eq_true, x_range, m_outside, Int32.reduceToInt, x_state, m_raise0, m_raise1, up_mr0, ite_not]
    exact OKx.bad 0 rfl (by decide) rfl (h.thm 0)
theorem ok_reportByte {σ τ : Sig} {G : Gd} {w : Rw} (a : Int32) (h : Rl (xg σ 8 G) (mr τ w)) : OKp (xg σ 8 G) (f11_reportByte a (xg σ 8 G)) (f12_reportByte a (mr τ w)) := by
  have hr := h.2.2.2.2.2
  obtain ⟨r1, r2, r3, r4⟩ := hr
  rw [xg_0, th_mr] at r1
  rw [th_mr] at r2 r3 r4
  rw [xg_0, mr_ne τ w (by decide)] at r4
  have e0 : (0 : Int32).toInt = 0 := rfl
  have t6 : mr (up τ 0 0 0 0) w 0 6 = τ 0 6 := by rw [mr_ne _ _ (by decide), up_ne _ _ _ (by decide)]
  unfold f11_reportByte f12_reportByte f12_reportByte_b17
  simp only [nm_ap, bnd_ap, bns_ap, bnx_ap0, bnx_ap1, bnx_ap2, bnx_ap3, bnx_ap4, gz_0, gz_1, dvd_96, dvd_2, dvd_10000, rmd_96, rmd_8, xg_at, xg_0, mr_at, up_xg, up_mr, narz_0, narz_1, i10, i01, i11, i00, ↓reduceIte, e10, e01, e50, e51, e20, e60, e70, e30, e40, Classical.not_not, not_true_eq_false, not_false_eq_true, up_mr0, th_mr, th_ne τ 0 (show ¬ 10 = 0 by decide), r1]
  by_cases c1 : a < 0
  · rw [if_pos c1, if_pos c1]
    exact ⟨_, _, rfl, rfl, h.thm 0⟩
  · rw [if_neg c1, if_neg c1]
    by_cases c2 : a < τ 0 0 10
    · rw [if_pos c2, if_pos c2]
      rw [Int32.lt_iff_toInt_lt] at c1 c2
      rw [e0] at c1
      rw [ald_in (by omega), ald_in (by omega), t6, r4 _ (by omega)]
      exact ⟨_, _, rfl, rfl, h.thm 0⟩
    · rw [if_neg c2, if_neg c2]
      exact ⟨_, _, rfl, rfl, h.thm 0⟩
