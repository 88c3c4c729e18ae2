/-! a new bureau is good -/
theorem iv_rs (G : Gd) : Iv (Grs G) := by
  have z2 : Grs G 2 0 = 0 := rfl
  have z3 : Grs G 3 0 = 0 := rfl
  have z4 : Grs G 4 0 = 0 := rfl
  have z5 : Grs G 5 0 = 0 := rfl
  have z1 : Grs G 1 0 = 0 := rfl
  have z6 : Grs G 0 6 = 1 := rfl
  have z7 : Grs G 2 1 = 2 := rfl
  have e0 : (0 : Int32).toInt = 0 := rfl
  refine ⟨?_, fun i h => ?_, fun i h => ?_, fun i h => ?_, fun i h => ?_, ?_⟩
  · rw [z1, z2, z3, z4, z5, z6, z7]; decide
  · rw [z2, e0] at h; omega
  · rw [z3, e0] at h; omega
  · rw [z4, e0] at h; omega
  · rw [z5, e0] at h; omega
  · rw [z4, z3]; rfl
/-- before the first pass -/
def Jb (G : Gd) : Prop := G 4 0 = 0 ∧ G 5 0 = 0 ∧ G 6 2 = 0 ∧ G 6 3 = 0 ∧ G 6 1 = 0 ∧ ∀ b : Nat, (b : Int) < (G 3 0).toInt → (G 14 b).toInt ≤ (G 9 b).toInt
theorem jb_rs (G : Gd) : Jb (Grs G) := ⟨rfl, rfl, rfl, rfl, rfl, fun b h => by rw [show Grs G 3 0 = 0 from rfl, show (0 : Int32).toInt = 0 from rfl] at h; omega⟩
theorem jb_sc {G : Gd} (h : Jb G) (N : Nat) (v : Int32) : Jb (Gsc G N v) := h
theorem jb_bed {G : Gd} (h : Jb G) {N : Nat} (hN : (G 3 0).toInt = N) (hN8 : N < 8) {sc pl f l : Int32} (hpl : 0 ≤ pl.toInt) : Jb (Gbed G N sc pl f l) := by
  have en : (G 3 0 + 1).toInt = N + 1 := tv_add hN rfl (by omega)
  have e0 : (0 : Int32).toInt = 0 := rfl
  refine ⟨h.1, h.2.1, h.2.2.1, h.2.2.2.1, h.2.2.2.2.1, ?_⟩
  show ∀ b : Nat, (b : Int) < (G 3 0 + 1).toInt → (upd (G 14) N 0 b).toInt ≤ (upd (G 9) N pl b).toInt
  intro b hb
  rw [en] at hb
  by_cases e : b = N
  · rw [e, upd_at, upd_at, e0]; exact hpl
  · rw [upd_ne _ _ e, upd_ne _ _ e]; exact h.2.2.2.2.2 b (by omega)
theorem jb_jv {G : Gd} (h : Jb G) (h3 : 1 ≤ (G 3 0).toInt) : Jv G := by
  obtain ⟨h4, h5, h62, h63, -, hb⟩ := h
  have e0 : (0 : Int32).toInt = 0 := rfl
  refine ⟨h3, by rw [h4, h5]; decide, ?_, fun p hp => ?_, fun k hk => ?_, hb⟩
  · rw [h62, h63, h4]; rfl
  · rw [h4, e0] at hp; omega
  · rw [h5, e0] at hk; omega
theorem jb_kb {G : Gd} (h : Jb G) (n : Nat) (ht : (G 1 0).toInt ≤ 100 + 150 * n) : Kb n G := by
  have e0 : (0 : Int32).toInt = 0 := rfl
  unfold Kb
  rw [h.2.2.2.1, h.2.2.2.2.1, e0]
  omega
theorem chain_67 : Iv g9_ ∧ Iv g10_ ∧ Iv g11_ ∧ Iv g12_ ∧ Iv g13_ ∧ Iv g14_ ∧ Iv g15_ ∧ Iv g16_ ∧ Gok 0 g17_ := by
  have i0 : Iv g0 := iv_rs Z0
  have b0 : Jb g0 := jb_rs Z0
  have i1 : Iv g1_ := iv_sc i0 (N := 0) (by decide +kernel) (by decide) (a := 30) (by decide)
  have b1 : Jb g1_ := jb_sc b0 0 30
  have i2 : Iv g2_ := iv_sc i1 (N := 1) (by decide +kernel) (by decide) (a := 20) (by decide)
  have b2 : Jb g2_ := jb_sc b1 1 20
  have i3 : Iv g3_ := iv_sc i2 (N := 2) (by decide +kernel) (by decide) (a := 15) (by decide)
  have b3 : Jb g3_ := jb_sc b2 2 15
  have i4 : Iv g4_ := iv_bed i3 (N := 0) (by decide +kernel) (by decide) (sc := 0) (pl := 2) (f := 0) (l := 9) (by decide)
  have b4 : Jb g4_ := jb_bed b3 (N := 0) (by decide +kernel) (by decide) (sc := 0) (pl := 2) (f := 0) (l := 9) (by decide)
  have i5 : Iv g5_ := iv_bed i4 (N := 1) (by decide +kernel) (by decide) (sc := 1) (pl := 1) (f := 5) (l := 9) (by decide)
  have b5 : Jb g5_ := jb_bed b4 (N := 1) (by decide +kernel) (by decide) (sc := 1) (pl := 1) (f := 5) (l := 9) (by decide)
  have i6 : Iv g6_ := iv_bed i5 (N := 2) (by decide +kernel) (by decide) (sc := 2) (pl := 3) (f := 0) (l := 0) (by decide)
  have b6 : Jb g6_ := jb_bed b5 (N := 2) (by decide +kernel) (by decide) (sc := 2) (pl := 3) (f := 0) (l := 0) (by decide)
  have j6 : Jv g6_ := jb_jv b6 (by decide +kernel)
  have i7 : Iv g7_ := iv_sel i6 (P := 0) (K := 0) (set := 1) (day := 0) (days := 1) (kind := 0) (pr := Pr g6_ 1 1 0) (by decide +kernel) (by decide +kernel) (by decide) (by decide) (by decide) (by decide) (by decide) (Pr_in i6 (by decide))
  have j7 : Jv g7_ := jv_sel i6 j6 (P := 0) (K := 0) (set := 1) (day := 0) (days := 1) (kind := 0) (pr := Pr g6_ 1 1 0) (by decide +kernel) (by decide +kernel) (by decide) (by decide)
  have i8 : Iv g8_ := iv_sel i7 (P := 1) (K := 1) (set := 3) (day := 0) (days := 6) (kind := 0) (pr := Pr g7_ 3 6 0) (by decide +kernel) (by decide +kernel) (by decide) (by decide) (by decide) (by decide) (by decide) (Pr_in i7 (by decide))
  have j8 : Jv g8_ := jv_sel i7 j7 (P := 1) (K := 1) (set := 3) (day := 0) (days := 6) (kind := 0) (pr := Pr g7_ 3 6 0) (by decide +kernel) (by decide +kernel) (by decide) (by decide)
  have i9 : Iv g9_ := iv_sel i8 (P := 2) (K := 2) (set := 7) (day := 1) (days := 3) (kind := 1) (pr := Pr g8_ 7 3 1) (by decide +kernel) (by decide +kernel) (by decide) (by decide) (by decide) (by decide) (by decide) (Pr_in i8 (by decide))
  have j9 : Jv g9_ := jv_sel i8 j8 (P := 2) (K := 2) (set := 7) (day := 1) (days := 3) (kind := 1) (pr := Pr g8_ 7 3 1) (by decide +kernel) (by decide +kernel) (by decide) (by decide)
  have i10 : Iv g10_ := iv_tk i9 (t := 40) ⟨by decide, by decide +kernel⟩
  have j10 : Jv g10_ := jv_tk i9 j9 40
  have i11 : Iv g11_ := iv_sho i10 (k := 0) (b := 0) (bi := 0) (by decide +kernel) (by decide +kernel) rfl
  have j11 : Jv g11_ := jv_sho i10 j10 (k := 0) (b := 0) (bi := 0) (by decide +kernel)
  have i12 : Iv g12_ := iv_sho i11 (k := 1) (b := 1) (bi := 1) (by decide +kernel) (by decide +kernel) rfl
  have j12 : Jv g12_ := jv_sho i11 j11 (k := 1) (b := 1) (bi := 1) (by decide +kernel)
  have i13 : Iv g13_ := iv_plk i12 (p := 0) (b := 0) (f := Fn g12_ 0 2) (bl := 2) (by decide +kernel) (by decide +kernel) (by decide +kernel) (by decide +kernel) (by decide +kernel) (by decide +kernel)
  have j13 : Jv g13_ := jv_plk j12 (p := 0) (by decide +kernel) 0 (Fn g12_ 0 2) 2
  have i14 : Iv g14_ := iv_tk i13 (t := 2) ⟨by decide, by decide +kernel⟩
  have j14 : Jv g14_ := jv_tk i13 j13 2
  have i15 : Iv g15_ := iv_sho i14 (k := 1) (b := 0) (bi := 0) (by decide +kernel) (by decide +kernel) rfl
  have j15 : Jv g15_ := jv_sho i14 j14 (k := 1) (b := 0) (bi := 0) (by decide +kernel)
  have i16 : Iv g16_ := iv_plk i15 (p := 1) (b := 0) (f := Fn g15_ 0 3) (bl := 3) (by decide +kernel) (by decide +kernel) (by decide +kernel) (by decide +kernel) (by decide +kernel) (by decide +kernel)
  have j16 : Jv g16_ := jv_plk j15 (p := 1) (by decide +kernel) 0 (Fn g15_ 0 3) 3
  have i17 : Iv g17_ := iv_los i16 (p := 0) (by decide +kernel) (by decide +kernel)
  have j17 : Jv g17_ := jv_los i16 j16 (p := 0) (by decide +kernel) (by decide +kernel)
  exact ⟨i9, i10, i11, i12, i13, i14, i15, i16, i17, j17, by unfold Kb; decide +kernel⟩
theorem start_67 : ∃ σ0 G, fX = some (xg σ0 8 G) ∧ HS σ0 [] ∧ Gok 0 G ∧ σ0 0 4 1 = 0 := by
  obtain ⟨σ1, e1, hX, hσ⟩ := fill_ok σi
  obtain ⟨i9, i10, i11, i12, i13, i14, i15, i16, h17⟩ := chain_67
  have hz : σ1 (10 + 1) = Z0 := funext fun c => by
    rw [hσ _ _ (by omega)]
    funext j
    exact if_neg (by omega)
  have e2 := found_x hX hz ⟨i9, i10, i11, i12, i13, i14, i15, i16⟩
  obtain ⟨f1, f2, f3, f4, f5⟩ := end_x σ1 g17_ (Int32.ofNat (tK FT FL 189)) (Int32.ofNat (tA FT FL 189)) (Int32.ofNat (tE FT FL 189)) 0 (-1)
  have e3 : fX = f4_copyFrom 8 10 (up (XS FT FL σ1 189 g17_) 0 4 1 0) := by
    unfold fX
    rw [e1]
    simp only [bnd_eq]
    rw [e2]
    simp only [bnd_eq, nm_eq]
  rw [e3]
  generalize up (XS FT FL σ1 189 g17_) 0 4 1 0 = S at f1 f2 f3 f4 f5 ⊢
  obtain ⟨H', q3, ag⟩ := x_copy (σ := S) (n := 8) (n1 := 10) (G := g17_) (H := S 9) (by decide) f5 h17.1
  rw [xg_self] at q3
  have s0 : ∀ c, ¬ c = 3 → ¬ c = 4 → ¬ c = 5 → ∀ j, S 0 c j = 0 := fun c h3 h4 h5 j => by
    rw [f1 0 c (by omega) (by omega), hσ 0 c (by omega)]
    exact if_neg (by omega)
  exact ⟨S, H', q3, ⟨0, 0, s0 1 (by decide) (by decide) (by decide) 1, s0 1 (by decide) (by decide) (by decide) 2, by omega, by omega, Nat.le_refl _, fun i G h => by cases h⟩, h17.ag ag, f4⟩
