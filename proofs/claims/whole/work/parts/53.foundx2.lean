/-! THE MATHEMATICS, 34: the class's founding script, done -/
theorem fx_1 {σ : Sig} (hX : TX FT FL σ) : f9_readCommand (XS FT FL σ 16 g3_) = some (XS FT FL σ 29 g4_) := by
  obtain ⟨f1_1, f1_2, f1_3, f1_4, f1_5, f1_6, f1_7, f1_8, f1_9, f1_10, f1_11, f1_12, f1_13, f1_14, f1_15, f1_16⟩ := ft_1
  exact xr_bed hX g3_ (N := 0) (by decide +kernel) (by decide) ⟨by decide, by decide, by decide, by decide, by decide, by decide⟩ f1_2 f1_1 f1_4 f1_5 f1_3 f1_7 f1_8 f1_6 f1_10 f1_11 f1_9 f1_13 f1_14 f1_12 f1_16 f1_15 (by decide +kernel) (by decide) (by decide) (by decide)
theorem fx_2 {σ : Sig} (hX : TX FT FL σ) : f9_readCommand (XS FT FL σ 29 g4_) = some (XS FT FL σ 42 g5_) := by
  obtain ⟨f2_1, f2_2, f2_3, f2_4, f2_5, f2_6, f2_7, f2_8, f2_9, f2_10, f2_11, f2_12, f2_13, f2_14, f2_15, f2_16⟩ := ft_2
  exact xr_bed hX g4_ (N := 1) (by decide +kernel) (by decide) ⟨by decide, by decide, by decide, by decide, by decide, by decide⟩ f2_2 f2_1 f2_4 f2_5 f2_3 f2_7 f2_8 f2_6 f2_10 f2_11 f2_9 f2_13 f2_14 f2_12 f2_16 f2_15 (by decide +kernel) (by decide) (by decide) (by decide)
theorem fx_3 {σ : Sig} (hX : TX FT FL σ) : f9_readCommand (XS FT FL σ 42 g5_) = some (XS FT FL σ 55 g6_) := by
  obtain ⟨f3_1, f3_2, f3_3, f3_4, f3_5, f3_6, f3_7, f3_8, f3_9, f3_10, f3_11, f3_12, f3_13, f3_14, f3_15, f3_16⟩ := ft_3
  exact xr_bed hX g5_ (N := 2) (by decide +kernel) (by decide) ⟨by decide, by decide, by decide, by decide, by decide, by decide⟩ f3_2 f3_1 f3_4 f3_5 f3_3 f3_7 f3_8 f3_6 f3_10 f3_11 f3_9 f3_13 f3_14 f3_12 f3_16 f3_15 (by decide +kernel) (by decide) (by decide) (by decide)
theorem fx_4 {σ : Sig} (hX : TX FT FL σ) : f9_readCommand (XS FT FL σ 55 g6_) = some (XS FT FL σ 73 g7_) := by
  obtain ⟨f4_1, f4_2, f4_3, f4_4, f4_5, f4_6, f4_7, f4_8, f4_9, f4_10, f4_11, f4_12, f4_13, f4_14, f4_15⟩ := ft_4
  exact xr_sell hX g6_ (N := 0) (K := 0) (by decide +kernel) (by decide +kernel) (by decide) (by decide +kernel) (by decide) ⟨by decide, by decide, by decide, by decide, by decide, by decide⟩ f4_2 f4_1 f4_4 f4_5 f4_3 f4_7 f4_8 f4_6 f4_10 f4_11 f4_9 (Or.inl ⟨f4_13, rfl⟩) f4_12 f4_15 f4_14 (by decide +kernel) (by decide +kernel) (by decide)
theorem fx_5 {σ : Sig} (hX : TX FT FL σ) : f9_readCommand (XS FT FL σ 73 g7_) = some (XS FT FL σ 91 g8_) := by
  obtain ⟨f5_1, f5_2, f5_3, f5_4, f5_5, f5_6, f5_7, f5_8, f5_9, f5_10, f5_11, f5_12, f5_13, f5_14, f5_15⟩ := ft_5
  exact xr_sell hX g7_ (N := 1) (K := 1) (by decide +kernel) (by decide +kernel) (by decide) (by decide +kernel) (by decide) ⟨by decide, by decide, by decide, by decide, by decide, by decide⟩ f5_2 f5_1 f5_4 f5_5 f5_3 f5_7 f5_8 f5_6 f5_10 f5_11 f5_9 (Or.inl ⟨f5_13, rfl⟩) f5_12 f5_15 f5_14 (by decide +kernel) (by decide +kernel) (by decide)
theorem fx_6 {σ : Sig} (hX : TX FT FL σ) : f9_readCommand (XS FT FL σ 91 g8_) = some (XS FT FL σ 109 g9_) := by
  obtain ⟨f6_1, f6_2, f6_3, f6_4, f6_5, f6_6, f6_7, f6_8, f6_9, f6_10, f6_11, f6_12, f6_13, f6_14, f6_15⟩ := ft_6
  exact xr_sell hX g8_ (N := 2) (K := 2) (by decide +kernel) (by decide +kernel) (by decide) (by decide +kernel) (by decide) ⟨by decide, by decide, by decide, by decide, by decide, by decide⟩ f6_2 f6_1 f6_4 f6_5 f6_3 f6_7 f6_8 f6_6 f6_10 f6_11 f6_9 (Or.inr ⟨f6_13, rfl⟩) f6_12 f6_15 f6_14 (by decide +kernel) (by decide +kernel) (by decide)
theorem fx_7 {σ : Sig} (hX : TX FT FL σ) (i9 : Iv g9_) : f9_readCommand (XS FT FL σ 109 g9_) = some (XS FT FL σ 118 g10_) := by
  obtain ⟨f7_1, f7_2, f7_3, f7_4, f7_5, f7_6, f7_7⟩ := ft_7
  exact xr_pass hX g9_ i9 ⟨by decide, by decide, by decide⟩ f7_2 f7_1 f7_4 f7_5 f7_3 f7_7 f7_6 (by decide) (by decide +kernel)
theorem fx_8 {σ : Sig} (hX : TX FT FL σ) (i10_ : Iv g10_) : f9_readCommand (XS FT FL σ 118 g10_) = some (XS FT FL σ 129 g11_) := by
  obtain ⟨f8_1, f8_2, f8_3, f8_4, f8_5, f8_6, f8_7, f8_8, f8_9, f8_10⟩ := ft_8
  have z := xr_visit (a := 0) (b := 0) hX g10_ i10_ ⟨by decide, by decide, by decide, by decide⟩ f8_2 f8_1 f8_4 f8_5 f8_3 f8_7 f8_8 f8_6 f8_10 f8_9 (by decide +kernel) (by decide +kernel) (by rw [show (0 : Int32).toInt.toNat = 0 from rfl]; exact ck11)
  rw [show (0 : Int32).toInt.toNat = 0 from rfl] at z
  exact z
theorem fx_9 {σ : Sig} (hX : TX FT FL σ) (i11_ : Iv g11_) : f9_readCommand (XS FT FL σ 129 g11_) = some (XS FT FL σ 140 g12_) := by
  obtain ⟨f9_1, f9_2, f9_3, f9_4, f9_5, f9_6, f9_7, f9_8, f9_9, f9_10⟩ := ft_9
  have z := xr_visit (a := 1) (b := 1) hX g11_ i11_ ⟨by decide, by decide, by decide, by decide⟩ f9_2 f9_1 f9_4 f9_5 f9_3 f9_7 f9_8 f9_6 f9_10 f9_9 (by decide +kernel) (by decide +kernel) (by rw [show (1 : Int32).toInt.toNat = 1 from rfl]; exact ck12)
  rw [show (1 : Int32).toInt.toNat = 1 from rfl] at z
  exact z
theorem fx_10 {σ : Sig} (hX : TX FT FL σ) (i12_ : Iv g12_) : f9_readCommand (XS FT FL σ 140 g12_) = some (XS FT FL σ 151 g13_) := by
  obtain ⟨f10_1, f10_2, f10_3, f10_4, f10_5, f10_6, f10_7, f10_8, f10_9, f10_10⟩ := ft_10
  have z10 := xr_pluck hX g12_ i12_ ⟨by decide, by decide, by decide, by decide⟩ f10_2 f10_1 f10_4 f10_5 f10_3 f10_7 f10_8 f10_6 f10_10 f10_9 (by decide +kernel) (by decide) ck13
  rw [show (0 : Int32).toInt.toNat = 0 from rfl, ck13b.1, ck13b.2] at z10
  exact z10
theorem fx_11 {σ : Sig} (hX : TX FT FL σ) (i13_ : Iv g13_) : f9_readCommand (XS FT FL σ 151 g13_) = some (XS FT FL σ 159 g14_) := by
  obtain ⟨f11_1, f11_2, f11_3, f11_4, f11_5, f11_6, f11_7⟩ := ft_11
  exact xr_pass hX g13_ i13_ ⟨by decide, by decide, by decide⟩ f11_2 f11_1 f11_4 f11_5 f11_3 f11_7 f11_6 (by decide) (by decide +kernel)
theorem fx_12 {σ : Sig} (hX : TX FT FL σ) (i14_ : Iv g14_) : f9_readCommand (XS FT FL σ 159 g14_) = some (XS FT FL σ 170 g15_) := by
  obtain ⟨f12_1, f12_2, f12_3, f12_4, f12_5, f12_6, f12_7, f12_8, f12_9, f12_10⟩ := ft_12
  have z := xr_visit (a := 1) (b := 0) hX g14_ i14_ ⟨by decide, by decide, by decide, by decide⟩ f12_2 f12_1 f12_4 f12_5 f12_3 f12_7 f12_8 f12_6 f12_10 f12_9 (by decide +kernel) (by decide +kernel) (by rw [show (0 : Int32).toInt.toNat = 0 from rfl, show (1 : Int32).toInt.toNat = 1 from rfl]; exact ck15)
  rw [show (0 : Int32).toInt.toNat = 0 from rfl, show (1 : Int32).toInt.toNat = 1 from rfl] at z
  exact z
theorem fx_13 {σ : Sig} (hX : TX FT FL σ) (i15_ : Iv g15_) : f9_readCommand (XS FT FL σ 170 g15_) = some (XS FT FL σ 181 g16_) := by
  obtain ⟨f13_1, f13_2, f13_3, f13_4, f13_5, f13_6, f13_7, f13_8, f13_9, f13_10⟩ := ft_13
  have z13 := xr_pluck hX g15_ i15_ ⟨by decide, by decide, by decide, by decide⟩ f13_2 f13_1 f13_4 f13_5 f13_3 f13_7 f13_8 f13_6 f13_10 f13_9 (by decide +kernel) (by decide) ck16
  rw [show (1 : Int32).toInt.toNat = 1 from rfl, ck16b.1, ck16b.2] at z13
  exact z13
theorem fx_14 {σ : Sig} (hX : TX FT FL σ) (i16_ : Iv g16_) : f9_readCommand (XS FT FL σ 181 g16_) = some (XS FT FL σ 189 g17_) := by
  obtain ⟨f14_1, f14_2, f14_3, f14_4, f14_5, f14_6, f14_7⟩ := ft_14
  have z := xr_lost (a := 0) hX g16_ i16_ ⟨by decide, by decide, by decide⟩ f14_2 f14_1 f14_4 f14_5 f14_3 f14_7 f14_6 (by decide +kernel) (by decide +kernel)
  rw [show (0 : Int32).toInt.toNat = 0 from rfl] at z
  exact z
theorem found_x {σ : Sig} (hX : TX FT FL σ) (hz : σ (10 + 1) = Z0) (hi : Iv g9_ ∧ Iv g10_ ∧ Iv g11_ ∧ Iv g12_ ∧ Iv g13_ ∧ Iv g14_ ∧ Iv g15_ ∧ Iv g16_) : f9_execute σ = some (XS FT FL σ 189 g17_) := by
  obtain ⟨i9, i10_, i11_, i12_, i13_, i14_, i15_, i16_⟩ := hi
  obtain ⟨f0_1, f0_2, f0_3, f0_4, f0_5, f0_6, f0_7, f0_8, f0_9, f0_10, f0_11, f0_12, f0_13⟩ := ft_0
  obtain ⟨f1_1, f1_2, f1_3, f1_4, f1_5, f1_6, f1_7, f1_8, f1_9, f1_10, f1_11, f1_12, f1_13, f1_14, f1_15, f1_16⟩ := ft_1
  obtain ⟨f2_1, f2_2, f2_3, f2_4, f2_5, f2_6, f2_7, f2_8, f2_9, f2_10, f2_11, f2_12, f2_13, f2_14, f2_15, f2_16⟩ := ft_2
  obtain ⟨f3_1, f3_2, f3_3, f3_4, f3_5, f3_6, f3_7, f3_8, f3_9, f3_10, f3_11, f3_12, f3_13, f3_14, f3_15, f3_16⟩ := ft_3
  obtain ⟨f4_1, f4_2, f4_3, f4_4, f4_5, f4_6, f4_7, f4_8, f4_9, f4_10, f4_11, f4_12, f4_13, f4_14, f4_15⟩ := ft_4
  obtain ⟨f5_1, f5_2, f5_3, f5_4, f5_5, f5_6, f5_7, f5_8, f5_9, f5_10, f5_11, f5_12, f5_13, f5_14, f5_15⟩ := ft_5
  obtain ⟨f6_1, f6_2, f6_3, f6_4, f6_5, f6_6, f6_7, f6_8, f6_9, f6_10, f6_11, f6_12, f6_13, f6_14, f6_15⟩ := ft_6
  obtain ⟨f7_1, f7_2, f7_3, f7_4, f7_5, f7_6, f7_7⟩ := ft_7
  obtain ⟨f8_1, f8_2, f8_3, f8_4, f8_5, f8_6, f8_7, f8_8, f8_9, f8_10⟩ := ft_8
  obtain ⟨f9_1, f9_2, f9_3, f9_4, f9_5, f9_6, f9_7, f9_8, f9_9, f9_10⟩ := ft_9
  obtain ⟨f10_1, f10_2, f10_3, f10_4, f10_5, f10_6, f10_7, f10_8, f10_9, f10_10⟩ := ft_10
  obtain ⟨f11_1, f11_2, f11_3, f11_4, f11_5, f11_6, f11_7⟩ := ft_11
  obtain ⟨f12_1, f12_2, f12_3, f12_4, f12_5, f12_6, f12_7, f12_8, f12_9, f12_10⟩ := ft_12
  obtain ⟨f13_1, f13_2, f13_3, f13_4, f13_5, f13_6, f13_7, f13_8, f13_9, f13_10⟩ := ft_13
  obtain ⟨f14_1, f14_2, f14_3, f14_4, f14_5, f14_6, f14_7⟩ := ft_14
  have ex0' : up (up σ 0 3 2 0) 0 3 3 (-1) = XB σ (σ 0 4 2) (σ 0 4 3) (σ 0 4 4) 0 (-1) := by
    have h1 := XB_u32 σ (σ 0 4 2) (σ 0 4 3) (σ 0 4 4) (σ 0 3 2) (σ 0 3 3) 0
    have h2 := XB_u33 σ (σ 0 4 2) (σ 0 4 3) (σ 0 4 4) 0 (σ 0 3 3) (-1)
    rw [XB_self] at h1
    rw [h1, h2]
  have er : f4_reset 10 σ = some (xg σ 10 g0) := by
    have h := x_reset σ 10 (σ (10 + 1))
    rw [xg_self, hz] at h
    exact h
  have x1 : f6_readNext (xg (XB σ (σ 0 4 2) (σ 0 4 3) 0 0 (-1)) 10 g0) = some (XS FT FL σ 0 g0) := x_read hX _ _ _ _ _ (Nat.zero_le _)
  have x2 : f6_readNext (XS FT FL σ 0 g0) = some (XS FT FL σ 6 g0) := by
    have h := x_next hX g0 (p := 0) (Nat.zero_le _) (-1)
    rw [f0_1] at h
    exact h
  have y1 : f9_readPrice (XS FT FL σ 6 g0) = some (XS FT FL σ 9 g1_) := x_price1 hX g0 (N := 0) (by decide) (by decide +kernel) (by decide) f0_4 f0_5 f0_3 (by decide)
  have y2 : f9_readPrice (XS FT FL σ 9 g1_) = some (XS FT FL σ 12 g2_) := x_price1 hX g1_ (N := 1) (by decide) (by decide +kernel) (by decide) f0_7 f0_8 f0_6 (by decide)
  have y3 : f9_readPrice (XS FT FL σ 12 g2_) = some (XS FT FL σ 15 g3_) := x_price1 hX g2_ (N := 2) (by decide) (by decide +kernel) (by decide) f0_10 f0_11 f0_9 (by decide)
  have y4 : f9_readGarden_b31 FU 1 (XS FT FL σ 9 g1_) = some (XS FT FL σ 16 g3_) := by
    rw [show FU = 997 + 1 + 1 + 1 from rfl, x_more hX g1_ (by decide) f0_7 y2, x_more hX g2_ (by decide) f0_10 y3, x_done hX g3_ (by decide) (by decide) f0_13 f0_12]
  have gar : f9_readGarden (XS FT FL σ 0 g0) = some (XS FT FL σ 16 g3_) := by
    unfold f9_readGarden
    rw [x_isWord hX g0 (Nat.zero_le _) _ _ (by decide)]
    simp only [bnd_eq, i10, f0_2, not_true_eq_false, ↓reduceIte, e10]
    rw [x2]
    simp only [bnd_eq]
    rw [y1]
    simp only [bnd_eq]
    exact y4
  have c1 := fx_1 hX
  have c2 := fx_2 hX
  have c3 := fx_3 hX
  have c4 := fx_4 hX
  have c5 := fx_5 hX
  have c6 := fx_6 hX
  have c7 := fx_7 hX i9
  have c8 := fx_8 hX i10_
  have c9 := fx_9 hX i11_
  have c10 := fx_10 hX i12_
  have c11 := fx_11 hX i13_
  have c12 := fx_12 hX i14_
  have c13 := fx_13 hX i15_
  have c14 := fx_14 hX i16_
  have run : f9_execute_b30 FU 0 (XS FT FL σ 16 g3_) = some (XS FT FL σ 189 g17_) := by
    show f9_execute_b30 (985 + 1 + 1 + 1 + 1 + 1 + 1 + 1 + 1 + 1 + 1 + 1 + 1 + 1 + 1 + 1) (Int32.ofNat 0) (XS FT FL σ 16 g3_) = some (XS FT FL σ 189 g17_)
    rw [xstep hX _ (by decide) (isw_k f1_2) c1, xstep hX _ (by decide) (isw_k f2_2) c2, xstep hX _ (by decide) (isw_k f3_2) c3, xstep hX _ (by decide) (isw_k f4_2) c4, xstep hX _ (by decide) (isw_k f5_2) c5, xstep hX _ (by decide) (isw_k f6_2) c6, xstep hX _ (by decide) (isw_k f7_2) c7, xstep hX _ (by decide) (isw_k f8_2) c8, xstep hX _ (by decide) (isw_k f9_2) c9, xstep hX _ (by decide) (isw_k f10_2) c10, xstep hX _ (by decide) (isw_k f11_2) c11, xstep hX _ (by decide) (isw_k f12_2) c12, xstep hX _ (by decide) (isw_k f13_2) c13, xstep hX _ (by decide) (isw_k f14_2) c14, xstop hX _ ft_end]
  unfold f9_execute f6_readFirst
  rw [er]
  simp only [bnd_eq, nm_eq, up_xg0, ex0', XB_u44, x1, gar, run]
