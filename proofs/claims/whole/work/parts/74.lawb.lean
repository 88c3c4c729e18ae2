/-! the law's: answers that are booleans; a float that is a number -/
theorem bz01 {v : Int32} (h : v = v &&& 1) : v = 0 ∨ v = 1 := by
  have q := Jvm.Kit.i32_mask v 1 (k := 1) (by decide) (by decide)
  rw [← h] at q
  have q2 : v.toInt = v.toInt % 2 := q
  rcases (show v.toInt = 0 ∨ v.toInt = 1 by omega) with e | e
  · exact Or.inl (ti_ext e)
  · exact Or.inr (ti_ext e)
theorem lb_isInSeason {a : Int32} {σ : Sig} {q : Xe} (h : f11_isInSeason a σ = some q) : q.1 = 0 → q.2.1 = 0 ∨ q.2.1 = 1 := by
  unfold f11_isInSeason at h
  obtain ⟨k, v, s2, -, h | ⟨hk, h⟩⟩ := bnx_some h
  · obtain ⟨v3, -, h⟩ := bnd_some h.2
    obtain ⟨v4, -, h⟩ := bnd_some h
    obtain ⟨hz, h⟩ := gz_some h
    cases h
    exact fun _ => bz01 hz
  · subst h
    exact fun e => absurd e hk
theorem lb_isReturned {a : Int32} {σ : Sig} {q : Xe} (h : f11_isReturned a σ = some q) : q.1 = 0 → q.2.1 = 0 ∨ q.2.1 = 1 := by
  unfold f11_isReturned at h
  obtain ⟨k, v, s2, -, h | ⟨hk, h⟩⟩ := bnx_some h
  · obtain ⟨-, h⟩ := ald_some h.2
    obtain ⟨hz, h⟩ := gz_some h
    cases h
    exact fun _ => bz01 hz
  · subst h
    exact fun e => absurd e hk
theorem lb_isBlocked {a : Int32} {σ : Sig} {q : Xe} (h : f11_isBlocked a σ = some q) : q.1 = 0 → q.2.1 = 0 ∨ q.2.1 = 1 := by
  unfold f11_isBlocked at h
  obtain ⟨k, v, s2, -, h | ⟨hk, h⟩⟩ := bnx_some h
  · obtain ⟨-, h⟩ := ald_some h.2
    obtain ⟨hz, h⟩ := gz_some h
    cases h
    exact fun _ => bz01 hz
  · subst h
    exact fun e => absurd e hk
theorem f2d_dec : ∀ a : Fin 51, ∀ b : Fin 51, b.1 = 0 ∨ FP.f2d (FP.fdiv (FP.i2f (Int32.ofNat a.1)) (FP.i2f (Int32.ofNat b.1))) &&& 0x7fffffffffffffff ≤ 0x7ff0000000000000 := by decide +kernel
theorem f2d_0 : FP.f2d FP.fconst0 &&& 0x7fffffffffffffff ≤ 0x7ff0000000000000 := by decide +kernel
theorem bs_num {σ : Sig} {G : Gd} (h0 : 0 ≤ (G 5 0).toInt ∧ (G 5 0).toInt ≤ 50) {r : UInt32} (h : f11_blockedShare (xg σ 8 G) = some r) : vf_n64 (FP.f2d r) := by
  have x : f2_countBlocked 8 (xg σ 8 G) = some (kb G (G 5 0).toInt.toNat) := x_blk2_l (by omega) FU 0 (by omega) (by unfold FU; omega)
  have hb := kb_in G (k := (G 5 0).toInt.toNat) (by omega)
  unfold f11_blockedShare at h
  simp only [nm_ap, bnd_ap, bns_ap, bnx_ap0, bnx_ap1, bnx_ap2, bnx_ap3, bnx_ap4, gz_0, gz_1, dvd_96, dvd_2, dvd_10000, rmd_96, rmd_8, xg_at, xg_0, mr_at, up_xg, up_mr, narz_0, narz_1, i10, i01, i11, i00, ↓reduceIte, e10, e01, e50, e51, e20, e60, e70, e30, e40, Classical.not_not, not_true_eq_false, not_false_eq_true, x] at h
  by_cases hz : G 5 0 = 0
  · rw [if_pos hz] at h
    cases h
    exact f2d_0
  · have hne2 : ¬ (G 5 0).toInt = 0 := fun e => hz (ti_ext (by rw [e]; rfl))
    rw [if_neg hz, fdv_ok _ _ (by omega) (by omega)] at h
    cases h
    have e : Int32.ofNat (G 5 0).toInt.toNat = G 5 0 := ti_ext (by rw [oN _ (by omega)]; omega)
    have e1 : Int32.ofNat (kb G (G 5 0).toInt.toNat).toInt.toNat = kb G (G 5 0).toInt.toNat := ti_ext (by rw [oN _ (by omega)]; omega)
    have h1 := f2d_dec ⟨(kb G (G 5 0).toInt.toNat).toInt.toNat, by omega⟩ ⟨(G 5 0).toInt.toNat, by omega⟩
    simp only [e, e1] at h1
    rcases h1 with h | h
    · omega
    · exact h
theorem lo_blockedShare {σ τ : Sig} (h : Rl σ τ) : ∃ r τ', f11_blockedShare σ = some r ∧ f12_blockedShare τ = some (r, τ') ∧ Rl σ τ' ∧ vf_n64 (FP.f2d r) := by
  have e1 : xg σ 8 (σ 9) = σ := xg_self σ 8
  have e2 : mr τ (τ 0 1) = τ := mr_self τ
  have h' : Rl (xg σ 8 (σ 9)) (mr τ (τ 0 1)) := by rw [e1, e2]; exact h
  have h0 := h'.gp.2.1
  have q := ok_blockedShare (σ := σ) (τ := τ) (G := σ 9) (w := τ 0 1) h'
  obtain ⟨r, τ', q1, q2, q3⟩ := q
  have hn := bs_num (by omega) q1
  rw [e1] at q1 q3
  rw [e2] at q2
  exact ⟨r, τ', q1, q2, q3, hn⟩
