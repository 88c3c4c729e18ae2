/-! the class alone, out of the whole check's mathematics -/
def Grs (G : Gd) : Gd := p2 (p2 (p2 (p2 (p2 (p2 (p2 (p2 (p2 (p2 (p2 (p2 (Gwlk (p2 G 1 0 0) 50 53) 2 0 0) 2 1 2) 3 0 0) 4 0 0) 5 0 0) 6 0 0) 6 1 0) 6 2 0) 6 3 0) 6 4 0) 6 5 0) 0 6 1
theorem x_reset (σ : Sig) (n : Nat) (G : Gd) : f4_reset n (xg σ n G) = some (xg σ n (Grs G)) := by
  unfold f4_reset f3_reset f10_reset f1_reset Grs
  simp only [nm_ap, bnd_ap, bns_ap, bnx_ap0, bnx_ap1, bnx_ap2, bnx_ap3, bnx_ap4, gz_0, gz_1, dvd_96, dvd_2, dvd_10000, rmd_96, rmd_8, xg_at, xg_0, mr_at, up_xg, up_mr, narz_0, narz_1, i10, i01, i11, i00, ↓reduceIte, e10, e01, e50, e51, e20, e60, e70, e30, e40, Classical.not_not, not_true_eq_false, not_false_eq_true, x_walk]
/-! the class alone, out of the whole check's mathematics -/
theorem end_x (σ : Sig) (G : Gd) (k a e x o : Int32) : (∀ g c, ¬ (g = 0 ∧ (c = 3 ∨ c = 4)) → ¬ g = 11 → up (xg (XB σ k a e x o) 10 G) 0 4 1 0 g c = σ g c) ∧ up (xg (XB σ k a e x o) 10 G) 0 4 1 0 0 3 2 = x ∧ up (xg (XB σ k a e x o) 10 G) 0 4 1 0 0 3 3 = o ∧ up (xg (XB σ k a e x o) 10 G) 0 4 1 0 0 4 1 = 0 ∧ up (xg (XB σ k a e x o) 10 G) 0 4 1 0 11 = G := by
  refine ⟨fun g c h1 h2 => ?_, ?_, ?_, ?_, ?_⟩
  · rw [up_ne _ _ _ (by omega), xg_ne _ _ _ (by omega), XB_ne _ _ _ _ _ _ h1]
  · rw [up_ne _ _ _ (by decide), xg_0, XB_32]
  · rw [up_ne _ _ _ (by decide), xg_0, XB_33]
  · rw [up_self, upd_at]
  · funext c
    rw [up_ne _ _ _ (by omega), show (11 : Nat) = 10 + 1 from rfl, xg_at]
/-! the class alone, out of the whole check's mathematics -/
def Z0 : Gd := fun _ _ => 0
def g0 : Gd := Grs Z0
def g1_ : Gd := Gsc g0 0 30
def g2_ : Gd := Gsc g1_ 1 20
def g3_ : Gd := Gsc g2_ 2 15
def g4_ : Gd := Gbed g3_ 0 0 2 0 9
def g5_ : Gd := Gbed g4_ 1 1 1 5 9
def g6_ : Gd := Gbed g5_ 2 2 3 0 0
def g7_ : Gd := Gsel g6_ 0 0 1 0 1 0 (Pr g6_ 1 1 0)
def g8_ : Gd := Gsel g7_ 1 1 3 0 6 0 (Pr g7_ 3 6 0)
def g9_ : Gd := Gsel g8_ 2 2 7 1 3 1 (Pr g8_ 7 3 1)
def g10_ : Gd := Gtk g9_ 40
def g11_ : Gd := Gsho g10_ 0 0 0
def g12_ : Gd := Gsho g11_ 1 1 1
def g13_ : Gd := Gplk g12_ 0 0 (Fn g12_ 0 2) 2
def g14_ : Gd := Gtk g13_ 2
def g15_ : Gd := Gsho g14_ 1 0 0
def g16_ : Gd := Gplk g15_ 1 0 (Fn g15_ 0 3) 3
def g17_ : Gd := Glos g16_ 0
def FT : Nat → Int32 := strA 0
def FL : Nat := 189
theorem ft_0 : tE FT FL 0 = 6 ∧ isw FT FL 0 (strB 1) = true ∧ tE FT FL 6 = 9 ∧ tK FT FL 6 = 1 ∧ tV FT FL 6 = 30 ∧ tE FT FL 9 = 12 ∧ tK FT FL 9 = 1 ∧ tV FT FL 9 = 20 ∧ tE FT FL 12 = 15 ∧ tK FT FL 12 = 1 ∧ tV FT FL 12 = 15 ∧ tE FT FL 15 = 16 ∧ tK FT FL 15 = 2 := by decide +kernel
theorem ft_1 : tE FT FL 16 = 20 ∧ isw FT FL 16 (strB 2) = true ∧ tE FT FL 20 = 22 ∧ tK FT FL 20 = 1 ∧ tV FT FL 20 = 0 ∧ tE FT FL 22 = 24 ∧ tK FT FL 22 = 1 ∧ tV FT FL 22 = 2 ∧ tE FT FL 24 = 26 ∧ tK FT FL 24 = 1 ∧ tV FT FL 24 = 0 ∧ tE FT FL 26 = 28 ∧ tK FT FL 26 = 1 ∧ tV FT FL 26 = 9 ∧ tE FT FL 28 = 29 ∧ tK FT FL 28 = 2 := by decide +kernel
theorem ft_2 : tE FT FL 29 = 33 ∧ isw FT FL 29 (strB 2) = true ∧ tE FT FL 33 = 35 ∧ tK FT FL 33 = 1 ∧ tV FT FL 33 = 1 ∧ tE FT FL 35 = 37 ∧ tK FT FL 35 = 1 ∧ tV FT FL 35 = 1 ∧ tE FT FL 37 = 39 ∧ tK FT FL 37 = 1 ∧ tV FT FL 37 = 5 ∧ tE FT FL 39 = 41 ∧ tK FT FL 39 = 1 ∧ tV FT FL 39 = 9 ∧ tE FT FL 41 = 42 ∧ tK FT FL 41 = 2 := by decide +kernel
theorem ft_3 : tE FT FL 42 = 46 ∧ isw FT FL 42 (strB 2) = true ∧ tE FT FL 46 = 48 ∧ tK FT FL 46 = 1 ∧ tV FT FL 46 = 2 ∧ tE FT FL 48 = 50 ∧ tK FT FL 48 = 1 ∧ tV FT FL 48 = 3 ∧ tE FT FL 50 = 52 ∧ tK FT FL 50 = 1 ∧ tV FT FL 50 = 0 ∧ tE FT FL 52 = 54 ∧ tK FT FL 52 = 1 ∧ tV FT FL 52 = 0 ∧ tE FT FL 54 = 55 ∧ tK FT FL 54 = 2 := by decide +kernel
theorem ft_4 : tE FT FL 55 = 60 ∧ isw FT FL 55 (strB 3) = true ∧ tE FT FL 60 = 62 ∧ tK FT FL 60 = 1 ∧ tV FT FL 60 = 1 ∧ tE FT FL 62 = 64 ∧ tK FT FL 62 = 1 ∧ tV FT FL 62 = 0 ∧ tE FT FL 64 = 66 ∧ tK FT FL 64 = 1 ∧ tV FT FL 64 = 1 ∧ tE FT FL 66 = 72 ∧ isw FT FL 66 (strB 4) = true ∧ tE FT FL 72 = 73 ∧ tK FT FL 72 = 2 := by decide +kernel
theorem ft_5 : tE FT FL 73 = 78 ∧ isw FT FL 73 (strB 3) = true ∧ tE FT FL 78 = 80 ∧ tK FT FL 78 = 1 ∧ tV FT FL 78 = 3 ∧ tE FT FL 80 = 82 ∧ tK FT FL 80 = 1 ∧ tV FT FL 80 = 0 ∧ tE FT FL 82 = 84 ∧ tK FT FL 82 = 1 ∧ tV FT FL 82 = 6 ∧ tE FT FL 84 = 90 ∧ isw FT FL 84 (strB 4) = true ∧ tE FT FL 90 = 91 ∧ tK FT FL 90 = 2 := by decide +kernel
theorem ft_6 : tE FT FL 91 = 96 ∧ isw FT FL 91 (strB 3) = true ∧ tE FT FL 96 = 98 ∧ tK FT FL 96 = 1 ∧ tV FT FL 96 = 7 ∧ tE FT FL 98 = 100 ∧ tK FT FL 98 = 1 ∧ tV FT FL 98 = 1 ∧ tE FT FL 100 = 102 ∧ tK FT FL 100 = 1 ∧ tV FT FL 100 = 3 ∧ tE FT FL 102 = 108 ∧ isw FT FL 102 (strB 5) = true ∧ tE FT FL 108 = 109 ∧ tK FT FL 108 = 2 := by decide +kernel
theorem ft_7 : tE FT FL 109 = 114 ∧ isw FT FL 109 (strB 12) = true ∧ tE FT FL 114 = 117 ∧ tK FT FL 114 = 1 ∧ tV FT FL 114 = 40 ∧ tE FT FL 117 = 118 ∧ tK FT FL 117 = 2 := by decide +kernel
theorem ft_8 : tE FT FL 118 = 124 ∧ isw FT FL 118 (strB 6) = true ∧ tE FT FL 124 = 126 ∧ tK FT FL 124 = 1 ∧ tV FT FL 124 = 0 ∧ tE FT FL 126 = 128 ∧ tK FT FL 126 = 1 ∧ tV FT FL 126 = 0 ∧ tE FT FL 128 = 129 ∧ tK FT FL 128 = 2 := by decide +kernel
theorem ft_9 : tE FT FL 129 = 135 ∧ isw FT FL 129 (strB 6) = true ∧ tE FT FL 135 = 137 ∧ tK FT FL 135 = 1 ∧ tV FT FL 135 = 1 ∧ tE FT FL 137 = 139 ∧ tK FT FL 137 = 1 ∧ tV FT FL 137 = 1 ∧ tE FT FL 139 = 140 ∧ tK FT FL 139 = 2 := by decide +kernel
theorem ft_10 : tE FT FL 140 = 146 ∧ isw FT FL 140 (strB 7) = true ∧ tE FT FL 146 = 148 ∧ tK FT FL 146 = 1 ∧ tV FT FL 146 = 0 ∧ tE FT FL 148 = 150 ∧ tK FT FL 148 = 1 ∧ tV FT FL 148 = 2 ∧ tE FT FL 150 = 151 ∧ tK FT FL 150 = 2 := by decide +kernel
theorem ft_11 : tE FT FL 151 = 156 ∧ isw FT FL 151 (strB 12) = true ∧ tE FT FL 156 = 158 ∧ tK FT FL 156 = 1 ∧ tV FT FL 156 = 2 ∧ tE FT FL 158 = 159 ∧ tK FT FL 158 = 2 := by decide +kernel
theorem ft_12 : tE FT FL 159 = 165 ∧ isw FT FL 159 (strB 6) = true ∧ tE FT FL 165 = 167 ∧ tK FT FL 165 = 1 ∧ tV FT FL 165 = 1 ∧ tE FT FL 167 = 169 ∧ tK FT FL 167 = 1 ∧ tV FT FL 167 = 0 ∧ tE FT FL 169 = 170 ∧ tK FT FL 169 = 2 := by decide +kernel
theorem ft_13 : tE FT FL 170 = 176 ∧ isw FT FL 170 (strB 7) = true ∧ tE FT FL 176 = 178 ∧ tK FT FL 176 = 1 ∧ tV FT FL 176 = 1 ∧ tE FT FL 178 = 180 ∧ tK FT FL 178 = 1 ∧ tV FT FL 178 = 3 ∧ tE FT FL 180 = 181 ∧ tK FT FL 180 = 2 := by decide +kernel
theorem ft_14 : tE FT FL 181 = 186 ∧ isw FT FL 181 (strB 9) = true ∧ tE FT FL 186 = 188 ∧ tK FT FL 186 = 1 ∧ tV FT FL 186 = 0 ∧ tE FT FL 188 = 189 ∧ tK FT FL 188 = 2 := by decide +kernel
theorem ft_end : tK FT FL 189 = 3 := by decide +kernel
theorem ft_len : (strB 0).length = FL := by decide +kernel
theorem ft_low : ∀ i, i < FL → 0 ≤ (FT i).toInt ∧ (FT i).toInt ≤ 127 := by decide +kernel
theorem ck11 : Rf g10_ 0 0 = 0 := by decide +kernel
theorem ck12 : Rf g11_ 1 1 = 0 := by decide +kernel
theorem ck13 : CpP g12_ 0 2 := by unfold CpP; decide +kernel
theorem ck15 : Rf g14_ 1 0 = 0 := by decide +kernel
theorem ck16 : CpP g15_ 1 3 := by unfold CpP; decide +kernel
theorem ck13b : (g12_ 27 0).toInt.toNat = 0 ∧ (g12_ 25 0).toInt.toNat = 0 := by decide +kernel
theorem ck16b : (g15_ 27 1).toInt.toNat = 1 ∧ (g15_ 25 1).toInt.toNat = 0 := by decide +kernel
/-! the class alone, out of the whole check's mathematics -/
abbrev XS (T : Nat → Int32) (L : Nat) (σ : Sig) (p : Nat) (G : Gd) : Sig := xg (XP T L σ p 0 (-1)) 10 G
theorem xn {T : Nat → Int32} {L : Nat} {σ : Sig} (hX : TX T L σ) (G : Gd) {p q : Nat} {lo hi v : Int32} (hp : p ≤ L) (h1 : tE T L p = q) (h2 : tK T L q = 1) (h3 : tV T L q = v) (h4 : lo.toInt ≤ v.toInt ∧ v.toInt ≤ hi.toInt) : f9_nextNumber lo hi (XS T L σ p G) = some (v, XS T L σ q G) := by
  subst h1
  unfold f9_nextNumber f9_nextNumber_b14
  simp only [nm_eq, xg_0, XB_32, ↓reduceIte]
  rw [x_next hX G hp]
  simp only [bnd_eq]
  rw [x_num hX G (tE_le T hp), if_pos h2, h3, if_pos h4]
  simp only [bns_eq]
theorem xc {T : Nat → Int32} {L : Nat} {σ : Sig} (hX : TX T L σ) (G : Gd) {p q : Nat} (hp : p ≤ L) (h1 : tE T L p = q) (h2 : tK T L q = 2) : f9_isComplete (XS T L σ p G) = some (1, XS T L σ q G) := by
  subst h1
  unfold f9_isComplete f9_isComplete_b14
  simp only [nm_eq, xg_0, XB_32, ↓reduceIte]
  rw [x_next hX G hp]
  simp only [bnd_eq]
  rw [x_semi, if_pos h2]
  rfl
theorem xb {T : Nat → Int32} {L : Nat} {σ : Sig} (hX : TX T L σ) (G : Gd) {p q : Nat} (hp : p ≤ L) (h1 : tE T L p = q) : f9_readCommand_b195 (XS T L σ p G) = some (XS T L σ q G) := by
  subst h1
  unfold f9_readCommand_b195
  simp only [nm_eq, xg_0, XB_32, ↓reduceIte]
  rw [x_next hX G hp]
  rfl
theorem xd_Bed {T : Nat → Int32} {L : Nat} {σ : Sig} (hX : TX T L σ) (G : Gd) {p : Nat} (hp : p ≤ L) (hw : isw T L p (strB 2) = true) : f9_readCommand (XS T L σ p G) = bnd (f9_readBed (XS T L σ p G)) f9_readCommand_b195 := by
  have nn : ∀ j, j < 14 → ¬ j = 2 → isw T L p (strB j) = false := fun j hj hn => isw_no hw (fun e => hn (strD _ hj _ (by decide) e.symm))
  have xw : ∀ k, k < 30 → f6_isWord k (XS T L σ p G) = some (if isw T L p (strB k) = true then 1 else 0) := fun k hk => x_isWord hX G hp _ _ hk
  unfold f9_readCommand
  simp only [xw 2 (by decide), bnd_eq, i10, hw,  e10, not_true_eq_false, not_false_eq_true, Bool.false_eq_true, ↓reduceIte]
theorem xd_Sell {T : Nat → Int32} {L : Nat} {σ : Sig} (hX : TX T L σ) (G : Gd) {p : Nat} (hp : p ≤ L) (hw : isw T L p (strB 3) = true) : f9_readCommand (XS T L σ p G) = bnd (f9_readSell (XS T L σ p G)) f9_readCommand_b195 := by
  have nn : ∀ j, j < 14 → ¬ j = 3 → isw T L p (strB j) = false := fun j hj hn => isw_no hw (fun e => hn (strD _ hj _ (by decide) e.symm))
  have xw : ∀ k, k < 30 → f6_isWord k (XS T L σ p G) = some (if isw T L p (strB k) = true then 1 else 0) := fun k hk => x_isWord hX G hp _ _ hk
  unfold f9_readCommand
  simp only [xw 2 (by decide), xw 3 (by decide), bnd_eq, i10, hw, nn 2 (by decide) (by decide),  e10, not_true_eq_false, not_false_eq_true, Bool.false_eq_true, ↓reduceIte]
theorem xd_Visit {T : Nat → Int32} {L : Nat} {σ : Sig} (hX : TX T L σ) (G : Gd) {p : Nat} (hp : p ≤ L) (hw : isw T L p (strB 6) = true) : f9_readCommand (XS T L σ p G) = bnd (f9_readVisit (XS T L σ p G)) f9_readCommand_b195 := by
  have nn : ∀ j, j < 14 → ¬ j = 6 → isw T L p (strB j) = false := fun j hj hn => isw_no hw (fun e => hn (strD _ hj _ (by decide) e.symm))
  have xw : ∀ k, k < 30 → f6_isWord k (XS T L σ p G) = some (if isw T L p (strB k) = true then 1 else 0) := fun k hk => x_isWord hX G hp _ _ hk
  unfold f9_readCommand
  simp only [xw 2 (by decide), xw 3 (by decide), xw 6 (by decide), bnd_eq, i10, hw, nn 2 (by decide) (by decide), nn 3 (by decide) (by decide),  e10, not_true_eq_false, not_false_eq_true, Bool.false_eq_true, ↓reduceIte]
theorem xd_Pluck {T : Nat → Int32} {L : Nat} {σ : Sig} (hX : TX T L σ) (G : Gd) {p : Nat} (hp : p ≤ L) (hw : isw T L p (strB 7) = true) : f9_readCommand (XS T L σ p G) = bnd (f9_readPluck (XS T L σ p G)) f9_readCommand_b195 := by
  have nn : ∀ j, j < 14 → ¬ j = 7 → isw T L p (strB j) = false := fun j hj hn => isw_no hw (fun e => hn (strD _ hj _ (by decide) e.symm))
  have xw : ∀ k, k < 30 → f6_isWord k (XS T L σ p G) = some (if isw T L p (strB k) = true then 1 else 0) := fun k hk => x_isWord hX G hp _ _ hk
  unfold f9_readCommand
  simp only [xw 2 (by decide), xw 3 (by decide), xw 6 (by decide), xw 7 (by decide), bnd_eq, i10, hw, nn 2 (by decide) (by decide), nn 3 (by decide) (by decide), nn 6 (by decide) (by decide),  e10, not_true_eq_false, not_false_eq_true, Bool.false_eq_true, ↓reduceIte]
theorem xd_Lost {T : Nat → Int32} {L : Nat} {σ : Sig} (hX : TX T L σ) (G : Gd) {p : Nat} (hp : p ≤ L) (hw : isw T L p (strB 9) = true) : f9_readCommand (XS T L σ p G) = bnd (f9_readLost (XS T L σ p G)) f9_readCommand_b195 := by
  have nn : ∀ j, j < 14 → ¬ j = 9 → isw T L p (strB j) = false := fun j hj hn => isw_no hw (fun e => hn (strD _ hj _ (by decide) e.symm))
  have xw : ∀ k, k < 30 → f6_isWord k (XS T L σ p G) = some (if isw T L p (strB k) = true then 1 else 0) := fun k hk => x_isWord hX G hp _ _ hk
  unfold f9_readCommand
  simp only [xw 2 (by decide), xw 3 (by decide), xw 6 (by decide), xw 7 (by decide), xw 8 (by decide), xw 9 (by decide), bnd_eq, i10, hw, nn 2 (by decide) (by decide), nn 3 (by decide) (by decide), nn 6 (by decide) (by decide), nn 7 (by decide) (by decide), nn 8 (by decide) (by decide),  e10, not_true_eq_false, not_false_eq_true, Bool.false_eq_true, ↓reduceIte]
theorem xd_Pass {T : Nat → Int32} {L : Nat} {σ : Sig} (hX : TX T L σ) (G : Gd) {p : Nat} (hp : p ≤ L) (hw : isw T L p (strB 12) = true) : f9_readCommand (XS T L σ p G) = bnd (f9_readPass (XS T L σ p G)) f9_readCommand_b195 := by
  have nn : ∀ j, j < 14 → ¬ j = 12 → isw T L p (strB j) = false := fun j hj hn => isw_no hw (fun e => hn (strD _ hj _ (by decide) e.symm))
  have xw : ∀ k, k < 30 → f6_isWord k (XS T L σ p G) = some (if isw T L p (strB k) = true then 1 else 0) := fun k hk => x_isWord hX G hp _ _ hk
  unfold f9_readCommand
  simp only [xw 2 (by decide), xw 3 (by decide), xw 6 (by decide), xw 7 (by decide), xw 8 (by decide), xw 9 (by decide), xw 10 (by decide), xw 11 (by decide), xw 12 (by decide), bnd_eq, i10, hw, nn 2 (by decide) (by decide), nn 3 (by decide) (by decide), nn 6 (by decide) (by decide), nn 7 (by decide) (by decide), nn 8 (by decide) (by decide), nn 9 (by decide) (by decide), nn 10 (by decide) (by decide), nn 11 (by decide) (by decide),  e10, not_true_eq_false, not_false_eq_true, Bool.false_eq_true, ↓reduceIte]
theorem xstep {T : Nat → Int32} {L : Nat} {σ : Sig} (hX : TX T L σ) (G : Gd) {p p' n c : Nat} {G' : Gd} (hc : c < 500) (hw : tK T L p = 0) (hr : f9_readCommand (XS T L σ p G) = some (XS T L σ p' G')) : f9_execute_b30 (n + 1) (Int32.ofNat c) (XS T L σ p G) = f9_execute_b30 n (Int32.ofNat (c + 1)) (XS T L σ p' G') := by
  have ec := oN c (by omega)
  have e5 : (500 : Int32).toInt = 500 := rfl
  rw [f9_execute_b30, if_neg (by rw [Int32.le_iff_toInt_le, ec, e5]; omega)]
  unfold f9_goesOn
  simp only [nm_eq, xg_0, XB_32, XB_42, ↓reduceIte, kd3, hw]
  rw [if_neg (by decide)]
  simp only [bnd_eq, e10, ↓reduceIte, hr, oN1]
theorem xstop {T : Nat → Int32} {L : Nat} {σ : Sig} (hX : TX T L σ) (G : Gd) {p n c : Nat} (hw : tK T L p = 3) : f9_execute_b30 (n + 1) (Int32.ofNat c) (XS T L σ p G) = some (XS T L σ p G) := by
  rw [f9_execute_b30]
  unfold f9_goesOn
  simp only [nm_eq, xg_0, XB_32, XB_42, ↓reduceIte, kd3]
  rw [if_pos hw]
  simp only [bnd_eq, ↓reduceIte]
  split <;> rfl
theorem isw_k {T : Nat → Int32} {L p : Nat} {s : List Int32} (h : isw T L p s = true) : tK T L p = 0 := by
  unfold isw at h
  simp only [Bool.and_eq_true, decide_eq_true_eq] at h
  exact h.1.1
theorem xr_bed {T : Nat → Int32} {L : Nat} {σ : Sig} (hX : TX T L σ) (G : Gd) {p q1 q2 q3 q4 q5 q6 N : Nat} {a b c d : Int32} (hN : (G 3 0).toInt = N) (hN8 : N < 8) (hL : p ≤ L ∧ q1 ≤ L ∧ q2 ≤ L ∧ q3 ≤ L ∧ q4 ≤ L ∧ q5 ≤ L) (hw : isw T L p (strB 2) = true) (k1 : tE T L p = q1) (k2 : tK T L q1 = 1) (k3 : tV T L q1 = a) (k4 : tE T L q1 = q2) (k5 : tK T L q2 = 1) (k6 : tV T L q2 = b) (k7 : tE T L q2 = q3) (k8 : tK T L q3 = 1) (k9 : tV T L q3 = c) (k10 : tE T L q3 = q4) (k11 : tK T L q4 = 1) (k12 : tV T L q4 = d) (k13 : tE T L q4 = q5) (k14 : tK T L q5 = 2) (k15 : tE T L q5 = q6) (r1 : 0 ≤ a.toInt ∧ a.toInt < (G 2 0).toInt) (r2 : 1 ≤ b.toInt ∧ b.toInt ≤ 20) (r3 : 0 ≤ c.toInt ∧ c.toInt ≤ 99) (r4 : c.toInt ≤ d.toInt ∧ d.toInt ≤ 99) : f9_readCommand (XS T L σ p G) = some (XS T L σ q6 (Gbed G N a b c d)) := by
  have e1 := e_1 (x := G 2 0) (by omega)
  rw [xd_Bed hX G hL.1 hw]
  unfold f9_readBed
  simp only [nm_eq, xg_at, xn hX G hL.1 k1 k2 k3 (lo := 0) (hi := G 2 0 - 1) ⟨r1.1, by omega⟩, xn hX G hL.2.1 k4 k5 k6 (lo := 1) (hi := 20) r2, xn hX G hL.2.2.1 k7 k8 k9 (lo := 0) (hi := 99) r3, xn hX G hL.2.2.2.1 k10 k11 k12 (lo := c) (hi := 99) r4, xc hX G hL.2.2.2.2.1 k13 k14, bns_eq, bnd_eq, e10, ↓reduceIte, x_room0, if_pos (show (G 3 0).toInt < 8 by omega), x_exec1]
  rw [x_bed (by omega)]
  simp only [bns_eq, bnd_eq]
  rw [xb hX _ hL.2.2.2.2.2 k15, show (G 3 0).toInt.toNat = N from by omega]
theorem xr_sell {T : Nat → Int32} {L : Nat} {σ : Sig} (hX : TX T L σ) (G : Gd) {p q1 q2 q3 q4 q5 q6 N K : Nat} {a b c d : Int32} (h2 : 0 ≤ (G 2 0).toInt ∧ (G 2 0).toInt ≤ 5) (hN : (G 4 0).toInt = N) (hN8 : N < 30) (hK : (G 5 0).toInt = K) (hK8 : K < 50) (hL : p ≤ L ∧ q1 ≤ L ∧ q2 ≤ L ∧ q3 ≤ L ∧ q4 ≤ L ∧ q5 ≤ L) (hw : isw T L p (strB 3) = true) (k1 : tE T L p = q1) (k2 : tK T L q1 = 1) (k3 : tV T L q1 = a) (k4 : tE T L q1 = q2) (k5 : tK T L q2 = 1) (k6 : tV T L q2 = b) (k7 : tE T L q2 = q3) (k8 : tK T L q3 = 1) (k9 : tV T L q3 = c) (k10 : tE T L q3 = q4) (k11 : (isw T L q4 (strB 4) = true ∧ d = 0) ∨ (isw T L q4 (strB 5) = true ∧ d = 1)) (k13 : tE T L q4 = q5) (k14 : tK T L q5 = 2) (k15 : tE T L q5 = q6) (r1 : 1 ≤ a.toInt ∧ a.toInt ≤ (SA G).toInt) (r2 : (Td G).toInt ≤ b.toInt ∧ b.toInt ≤ 99) (r3 : 1 ≤ c.toInt ∧ c.toInt ≤ 14) : f9_readCommand (XS T L σ p G) = some (XS T L σ q6 (Gsel G N K a b c d (Pr G a c d))) := by
  have kd : f9_nextKind (XS T L σ q3 G) = some (d, XS T L σ q4 G) := by
    have xw : ∀ k, k < 30 → f6_isWord k (XS T L σ q4 G) = some (if isw T L q4 (strB k) = true then 1 else 0) := fun k hk => x_isWord hX G hL.2.2.2.2.1 _ _ hk
    unfold f9_nextKind f9_nextKind_b43
    simp only [nm_eq, xg_0, XB_32, ↓reduceIte]
    rw [x_next hX G hL.2.2.2.1, k10]
    simp only [bnd_eq, xw 4 (by decide), xw 5 (by decide), i10]
    rcases k11 with ⟨k, rfl⟩ | ⟨k, rfl⟩
    · have z : isw T L q4 (strB 5) = false := isw_no k (by decide +kernel)
      simp only [k, z, e10, not_true_eq_false, not_false_eq_true, Bool.false_eq_true, ↓reduceIte]
    · have z : isw T L q4 (strB 4) = false := isw_no k (by decide +kernel)
      simp only [k, z, e10, not_true_eq_false, not_false_eq_true, Bool.false_eq_true, ↓reduceIte]
  rw [xd_Sell hX G hL.1 hw]
  unfold f9_readSell
  simp only [x_all, bnd_eq, xn hX G hL.1 k1 k2 k3 (lo := 1) (hi := SA G) r1, bns_eq, x_today, xn hX G hL.2.1 k4 k5 k6 (lo := Td G) (hi := 99) r2, xn hX G hL.2.2.1 k7 k8 k9 (lo := 1) (hi := 14) r3, kd, xc hX G hL.2.2.2.2.1 k13 k14, e10, ↓reduceIte, x_canSell, if_pos (show (G 4 0).toInt < 30 ∧ (G 5 0).toInt < 50 by omega), x_exec1]
  rw [x_sell h2 (by omega) (by omega)]
  simp only [bns_eq, bnd_eq]
  rw [xb hX _ hL.2.2.2.2.2 k15, show (G 4 0).toInt.toNat = N from by omega, show (G 5 0).toInt.toNat = K from by omega]
theorem xr_pass {T : Nat → Int32} {L : Nat} {σ : Sig} (hX : TX T L σ) (G : Gd) {p q1 q2 q3 : Nat} {a : Int32} (hi : Iv G) (hL : p ≤ L ∧ q1 ≤ L ∧ q2 ≤ L) (hw : isw T L p (strB 12) = true) (k1 : tE T L p = q1) (k2 : tK T L q1 = 1) (k3 : tV T L q1 = a) (k4 : tE T L q1 = q2) (k14 : tK T L q2 = 2) (k15 : tE T L q2 = q3) (r1 : 1 ≤ a.toInt ∧ a.toInt ≤ 500) (r2 : (G 1 0).toInt + a.toInt ≤ 9599) : f9_readCommand (XS T L σ p G) = some (XS T L σ q3 (Gtk G a)) := by
  rw [xd_Pass hX G hL.1 hw]
  unfold f9_readPass
  simp only [bnd_eq, xn hX G hL.1 k1 k2 k3 (lo := 1) (hi := 500) r1, bns_eq, xc hX G hL.2.1 k4 k14, e10, ↓reduceIte, x_canGo hi (show 0 ≤ a.toInt ∧ a.toInt ≤ 9999 by omega), if_pos r2, x_exec1]
  rw [x_ticks hi ⟨r1.1, r2⟩]
  simp only [bns_eq, bnd_eq]
  rw [xb hX _ hL.2.2 k15]
theorem xr_lost {T : Nat → Int32} {L : Nat} {σ : Sig} (hX : TX T L σ) (G : Gd) {p q1 q2 q3 : Nat} {a : Int32} (hi : Iv G) (hL : p ≤ L ∧ q1 ≤ L ∧ q2 ≤ L) (hw : isw T L p (strB 9) = true) (k1 : tE T L p = q1) (k2 : tK T L q1 = 1) (k3 : tV T L q1 = a) (k4 : tE T L q1 = q2) (k14 : tK T L q2 = 2) (k15 : tE T L q2 = q3) (r1 : 0 ≤ a.toInt ∧ a.toInt < (G 4 0).toInt) (r2 : 0 ≤ (G 20 a.toInt.toNat).toInt) : f9_readCommand (XS T L σ p G) = some (XS T L σ q3 (Glos G a.toInt.toNat)) := by
  have h0 := hi.1
  have e1 := e_1 (x := G 4 0) (by omega)
  have am : 0 ≤ a.toInt ∧ a.toInt < 30 := by omega
  have h1 := hi.p (p := a.toInt.toNat) (by omega)
  rw [xd_Lost hX G hL.1 hw]
  unfold f9_readLost
  simp only [nm_eq, xg_at, bnd_eq, xn hX G hL.1 k1 k2 k3 (lo := 0) (hi := G 4 0 - 1) ⟨r1.1, by omega⟩, bns_eq, xc hX G hL.2.1 k4 k14, e10, ↓reduceIte, x_hasCard am, if_neg (show ¬ (G 20 a.toInt.toNat).toInt = -1 by omega), x_exec1]
  rw [x_block am (by omega) (by omega)]
  simp only [bns_eq, bnd_eq]
  rw [xb hX _ hL.2.2 k15]
theorem xr_visit {T : Nat → Int32} {L : Nat} {σ : Sig} (hX : TX T L σ) (G : Gd) {p q1 q2 q3 q4 : Nat} {a b : Int32} (hi : Iv G) (hL : p ≤ L ∧ q1 ≤ L ∧ q2 ≤ L ∧ q3 ≤ L) (hw : isw T L p (strB 6) = true) (k1 : tE T L p = q1) (k2 : tK T L q1 = 1) (k3 : tV T L q1 = a) (k4 : tE T L q1 = q2) (k5 : tK T L q2 = 1) (k6 : tV T L q2 = b) (k7 : tE T L q2 = q3) (k14 : tK T L q3 = 2) (k15 : tE T L q3 = q4) (r1 : 0 ≤ a.toInt ∧ a.toInt < (G 5 0).toInt) (r2 : 0 ≤ b.toInt ∧ b.toInt < (G 3 0).toInt) (r3 : Rf G a.toInt.toNat b.toInt.toNat = 0) : f9_readCommand (XS T L σ p G) = some (XS T L σ q4 (Gsho G a.toInt.toNat b.toInt.toNat b)) := by
  have h0 := hi.1
  have e1 := e_1 (x := G 5 0) (by omega)
  have e2 := e_1 (x := G 3 0) (by omega)
  rw [xd_Visit hX G hL.1 hw]
  unfold f9_readVisit f9_readVisit_b61
  simp only [nm_eq, xg_at, bnd_eq, xn hX G hL.1 k1 k2 k3 (lo := 0) (hi := G 5 0 - 1) ⟨r1.1, by omega⟩, bns_eq, xn hX G hL.2.1 k4 k5 k6 (lo := 0) (hi := G 3 0 - 1) ⟨r2.1, by omega⟩, xc hX G hL.2.2.1 k7 k14, e10, ↓reduceIte, x_show hi r1 r2, r3, x_exec1]
  rw [xb hX _ hL.2.2.2 k15]
theorem xr_pluck {T : Nat → Int32} {L : Nat} {σ : Sig} (hX : TX T L σ) (G : Gd) {p q1 q2 q3 q4 : Nat} {a b : Int32} (hi : Iv G) (hL : p ≤ L ∧ q1 ≤ L ∧ q2 ≤ L ∧ q3 ≤ L) (hw : isw T L p (strB 7) = true) (k1 : tE T L p = q1) (k2 : tK T L q1 = 1) (k3 : tV T L q1 = a) (k4 : tE T L q1 = q2) (k5 : tK T L q2 = 1) (k6 : tV T L q2 = b) (k7 : tE T L q2 = q3) (k14 : tK T L q3 = 2) (k15 : tE T L q3 = q4) (r1 : 0 ≤ a.toInt ∧ a.toInt < (G 5 0).toInt) (r2 : 1 ≤ b.toInt ∧ b.toInt ≤ 9) (r3 : CpP G a.toInt.toNat b) : f9_readCommand (XS T L σ p G) = some (XS T L σ q4 (Gplk G (G 27 a.toInt.toNat).toInt.toNat (G 25 (G 27 a.toInt.toNat).toInt.toNat).toInt.toNat (Fn G (G 25 (G 27 a.toInt.toNat).toInt.toNat).toInt.toNat b) b)) := by
  have h0 := hi.1
  have e1 := e_1 (x := G 5 0) (by omega)
  rw [xd_Pluck hX G hL.1 hw]
  unfold f9_readPluck
  simp only [nm_eq, xg_at, bnd_eq, xn hX G hL.1 k1 k2 k3 (lo := 0) (hi := G 5 0 - 1) ⟨r1.1, by omega⟩, bns_eq, xn hX G hL.2.1 k4 k5 k6 (lo := 1) (hi := 9) r2, xc hX G hL.2.2.1 k7 k14, e10, ↓reduceIte, x_canPluck hi r1, if_pos r3, x_exec1, x_pluck hi r1 r3]
  rw [xb hX _ hL.2.2.2 k15]
theorem x_price1 {T : Nat → Int32} {L : Nat} {σ : Sig} (hX : TX T L σ) (G : Gd) {p q N : Nat} {v : Int32} (hp : p ≤ L) (hN : (G 2 0).toInt = N) (hN5 : N < 5) (h2 : tK T L p = 1) (h3 : tV T L p = v) (h1 : tE T L p = q) (h4 : 1 ≤ v.toInt ∧ v.toInt ≤ 99) : f9_readPrice (XS T L σ p G) = some (XS T L σ q (Gsc G N v)) := by
  subst h1
  have h4' : (1 : Int32).toInt ≤ v.toInt ∧ v.toInt ≤ (99 : Int32).toInt := h4
  unfold f9_readPrice f9_readPrice_b26
  rw [x_num hX G hp, if_pos h2, h3, if_pos h4']
  simp only [bns_eq, x_room10, bnd_eq, if_pos (show (G 2 0).toInt < 5 by omega), e10, ↓reduceIte, nm_eq, xg_0, XB_32]
  rw [x_scent (by omega)]
  simp only [bnd_eq]
  rw [x_next hX _ hp, show (G 2 0).toInt.toNat = N from by omega]
  rfl
theorem x_more {T : Nat → Int32} {L : Nat} {σ : Sig} (hX : TX T L σ) (G : Gd) {fu p : Nat} {x1 : Int32} {X' : Sig} (h5 : x1.toInt ≤ 5) (h2 : tK T L p = 1) (hr : f9_readPrice (XS T L σ p G) = some X') : f9_readGarden_b31 (fu + 1) x1 (XS T L σ p G) = f9_readGarden_b31 fu (x1 + 1) X' := by
  rw [f9_readGarden_b31, if_neg (by rw [Int32.lt_iff_toInt_lt, show (5 : Int32).toInt = 5 from rfl]; omega)]
  simp only [nm_eq, xg_0, XB_32, XB_42, kd1, ↓reduceIte]
  rw [if_pos h2, hr]
  simp only [bnd_eq]
theorem x_done {T : Nat → Int32} {L : Nat} {σ : Sig} (hX : TX T L σ) (G : Gd) {fu p q : Nat} {x1 : Int32} (hp : p ≤ L) (h5 : x1.toInt ≤ 5) (h2 : tK T L p = 2) (h1 : tE T L p = q) : f9_readGarden_b31 (fu + 1) x1 (XS T L σ p G) = some (XS T L σ q G) := by
  subst h1
  rw [f9_readGarden_b31, if_neg (by rw [Int32.lt_iff_toInt_lt, show (5 : Int32).toInt = 5 from rfl]; omega)]
  unfold f9_readGarden_b64
  simp only [nm_eq, xg_0, XB_32, XB_42, kd1, h2, ↓reduceIte]
  rw [if_neg (by decide), x_semi, if_pos h2]
  simp only [bns_eq, ↓reduceIte, e10]
  rw [x_next hX _ hp]
  rfl
/-! the class alone, out of the whole check's mathematics -/
def σi : Sig := fun g c j => if g = 0 ∧ c = 3 ∧ j = 3 then -1 else 0
def fX : Option Sig := bnd (f6_fill 0 σi) fun s1 => bnd (f9_execute s1) fun s2 => nm (up s2 0 4 1 0) fun s3 => f4_copyFrom 8 10 s3
/-! the class alone, out of the whole check's mathematics -/
theorem fx_1 {σ : Sig} (hX : TX FT FL σ) : f9_readCommand (XS FT FL σ 16 g3_) = some (XS FT FL σ 29 g4_) := by
  obtain ⟨f1_1, f1_2, f1_3, f1_4, f1_5, f1_6, f1_7, f1_8, f1_9, f1_10, f1_11, f1_12, f1_13, f1_14, f1_15, f1_16⟩ := ft_1
  exact xr_bed hX g3_ (N := 0) (by decide +kernel) (by decide) ⟨by decide, by decide, by decide, by decide, by decide, by decide⟩ f1_2 f1_1 f1_4 f1_5 f1_3 f1_7 f1_8 f1_6 f1_10 f1_11 f1_9 f1_13 f1_14 f1_12 f1_16 f1_15 (by decide +kernel) (by decide) (by decide) (by decide)
theorem fx_2 {σ : Sig} (hX : TX FT FL σ) : f9_readCommand (XS FT FL σ 29 g4_) = some (XS FT FL σ 42 g5_) := by
  obtain ⟨f2_1, f2_2, f2_3, f2_4, f2_5, f2_6, f2_7, f2_8, f2_9, f2_10, f2_11, f2_12, f2_13, f2_14, f2_15, f2_16⟩ := ft_2
  exact xr_bed hX g4_ (N := 1) (by decide +kernel) (by decide) ⟨by decide, by decide, by decide, by decide, by decide, by decide⟩ f2_2 f2_1 f2_4 f2_5 f2_3 f2_7 f2_8 f2_6 f2_10 f2_11 f2_9 f2_13 f2_14 f2_12 f2_16 f2_15 (by decide +kernel) (by decide) (by decide) (by decide)
theorem fx_3 {σ : Sig} (hX : TX FT FL σ) : f9_readCommand (XS FT FL σ 42 g5_) = some (XS FT FL σ 55 g6_) := by
  obtain ⟨f3_1, f3_2, f3_3, f3_4, f3_5, f3_6, f3_7, f3_8, f3_9, f3_10, f3_11, f3_12, f3_13, f3_14, f3_15, f3_16⟩ := ft_3
  exact xr_bed hX g5_ (N := 2) (by decide +kernel) (by decide) ⟨by decide, by decide, by decide, by decide, by decide, by decide⟩ f3_2 f3_1 f3_4 f3_5 f3_3 f3_7 f3_8 f3_6 f3_10 f3_11 f3_9 f3_13 f3_14 f3_12 f3_16 f3_15 (by decide +kernel) (by decide) (by decide) (by decide)
theorem fx_4 {σ : Sig} (hX : TX FT FL σ) : f9_readCommand (XS FT FL σ 55 g6_) = some (XS FT FL σ 73 g7_) := by
  obtain ⟨f4_1, f4_2, f4_3, f4_4, f4_5, f4_6, f4_7, f4_8, f4_9, f4_10, f4_11, f4_12, f4_13, f4_14, f4_15⟩ := ft_4
  exact xr_sell hX g6_ (N := 0) (K := 0) (by decide +kernel) (by decide +kernel) (by decide) (by decide +kernel) (by decide) ⟨by decide, by decide, by decide, by decide, by decide, by decide⟩ f4_2 f4_1 f4_4 f4_5 f4_3 f4_7 f4_8 f4_6 f4_10 f4_11 f4_9 (Or.inl ⟨f4_13, rfl⟩) f4_12 f4_15 f4_14 (by decide +kernel) (by decide +kernel) (by decide)
theorem fx_5 {σ : Sig} (hX : TX FT FL σ) : f9_readCommand (XS FT FL σ 73 g7_) = some (XS FT FL σ 91 g8_) := by
  obtain ⟨f5_1, f5_2, f5_3, f5_4, f5_5, f5_6, f5_7, f5_8, f5_9, f5_10, f5_11, f5_12, f5_13, f5_14, f5_15⟩ := ft_5
  exact xr_sell hX g7_ (N := 1) (K := 1) (by decide +kernel) (by decide +kernel) (by decide) (by decide +kernel) (by decide) ⟨by decide, by decide, by decide, by decide, by decide, by decide⟩ f5_2 f5_1 f5_4 f5_5 f5_3 f5_7 f5_8 f5_6 f5_10 f5_11 f5_9 (Or.inl ⟨f5_13, rfl⟩) f5_12 f5_15 f5_14 (by decide +kernel) (by decide +kernel) (by decide)
theorem fx_6 {σ : Sig} (hX : TX FT FL σ) : f9_readCommand (XS FT FL σ 91 g8_) = some (XS FT FL σ 109 g9_) := by
  obtain ⟨f6_1, f6_2, f6_3, f6_4, f6_5, f6_6, f6_7, f6_8, f6_9, f6_10, f6_11, f6_12, f6_13, f6_14, f6_15⟩ := ft_6
  exact xr_sell hX g8_ (N := 2) (K := 2) (by decide +kernel) (by decide +kernel) (by decide) (by decide +kernel) (by decide) ⟨by decide, by decide, by decide, by decide, by decide, by decide⟩ f6_2 f6_1 f6_4 f6_5 f6_3 f6_7 f6_8 f6_6 f6_10 f6_11 f6_9 (Or.inr ⟨f6_13, rfl⟩) f6_12 f6_15 f6_14 (by decide +kernel) (by decide +kernel) (by decide)
theorem fx_7 {σ : Sig} (hX : TX FT FL σ) (i9 : Iv g9_) : f9_readCommand (XS FT FL σ 109 g9_) = some (XS FT FL σ 118 g10_) := by
  obtain ⟨f7_1, f7_2, f7_3, f7_4, f7_5, f7_6, f7_7⟩ := ft_7
  exact xr_pass hX g9_ i9 ⟨by decide, by decide, by decide⟩ f7_2 f7_1 f7_4 f7_5 f7_3 f7_7 f7_6 (by decide) (by decide +kernel)
theorem fx_8 {σ : Sig} (hX : TX FT FL σ) (i10_ : Iv g10_) : f9_readCommand (XS FT FL σ 118 g10_) = some (XS FT FL σ 129 g11_) := by
  obtain ⟨f8_1, f8_2, f8_3, f8_4, f8_5, f8_6, f8_7, f8_8, f8_9, f8_10⟩ := ft_8
  have z := xr_visit (a := 0) (b := 0) hX g10_ i10_ ⟨by decide, by decide, by decide, by decide⟩ f8_2 f8_1 f8_4 f8_5 f8_3 f8_7 f8_8 f8_6 f8_10 f8_9 (by decide +kernel) (by decide +kernel) (by rw [show (0 : Int32).toInt.toNat = 0 from rfl]; exact ck11)
  rw [show (0 : Int32).toInt.toNat = 0 from rfl] at z
  exact z
theorem fx_9 {σ : Sig} (hX : TX FT FL σ) (i11_ : Iv g11_) : f9_readCommand (XS FT FL σ 129 g11_) = some (XS FT FL σ 140 g12_) := by
  obtain ⟨f9_1, f9_2, f9_3, f9_4, f9_5, f9_6, f9_7, f9_8, f9_9, f9_10⟩ := ft_9
  have z := xr_visit (a := 1) (b := 1) hX g11_ i11_ ⟨by decide, by decide, by decide, by decide⟩ f9_2 f9_1 f9_4 f9_5 f9_3 f9_7 f9_8 f9_6 f9_10 f9_9 (by decide +kernel) (by decide +kernel) (by rw [show (1 : Int32).toInt.toNat = 1 from rfl]; exact ck12)
  rw [show (1 : Int32).toInt.toNat = 1 from rfl] at z
  exact z
theorem fx_10 {σ : Sig} (hX : TX FT FL σ) (i12_ : Iv g12_) : f9_readCommand (XS FT FL σ 140 g12_) = some (XS FT FL σ 151 g13_) := by
  obtain ⟨f10_1, f10_2, f10_3, f10_4, f10_5, f10_6, f10_7, f10_8, f10_9, f10_10⟩ := ft_10
  have z10 := xr_pluck hX g12_ i12_ ⟨by decide, by decide, by decide, by decide⟩ f10_2 f10_1 f10_4 f10_5 f10_3 f10_7 f10_8 f10_6 f10_10 f10_9 (by decide +kernel) (by decide) ck13
  rw [show (0 : Int32).toInt.toNat = 0 from rfl, ck13b.1, ck13b.2] at z10
  exact z10
theorem fx_11 {σ : Sig} (hX : TX FT FL σ) (i13_ : Iv g13_) : f9_readCommand (XS FT FL σ 151 g13_) = some (XS FT FL σ 159 g14_) := by
  obtain ⟨f11_1, f11_2, f11_3, f11_4, f11_5, f11_6, f11_7⟩ := ft_11
  exact xr_pass hX g13_ i13_ ⟨by decide, by decide, by decide⟩ f11_2 f11_1 f11_4 f11_5 f11_3 f11_7 f11_6 (by decide) (by decide +kernel)
theorem fx_12 {σ : Sig} (hX : TX FT FL σ) (i14_ : Iv g14_) : f9_readCommand (XS FT FL σ 159 g14_) = some (XS FT FL σ 170 g15_) := by
  obtain ⟨f12_1, f12_2, f12_3, f12_4, f12_5, f12_6, f12_7, f12_8, f12_9, f12_10⟩ := ft_12
  have z := xr_visit (a := 1) (b := 0) hX g14_ i14_ ⟨by decide, by decide, by decide, by decide⟩ f12_2 f12_1 f12_4 f12_5 f12_3 f12_7 f12_8 f12_6 f12_10 f12_9 (by decide +kernel) (by decide +kernel) (by rw [show (0 : Int32).toInt.toNat = 0 from rfl, show (1 : Int32).toInt.toNat = 1 from rfl]; exact ck15)
  rw [show (0 : Int32).toInt.toNat = 0 from rfl, show (1 : Int32).toInt.toNat = 1 from rfl] at z
  exact z
theorem fx_13 {σ : Sig} (hX : TX FT FL σ) (i15_ : Iv g15_) : f9_readCommand (XS FT FL σ 170 g15_) = some (XS FT FL σ 181 g16_) := by
  obtain ⟨f13_1, f13_2, f13_3, f13_4, f13_5, f13_6, f13_7, f13_8, f13_9, f13_10⟩ := ft_13
  have z13 := xr_pluck hX g15_ i15_ ⟨by decide, by decide, by decide, by decide⟩ f13_2 f13_1 f13_4 f13_5 f13_3 f13_7 f13_8 f13_6 f13_10 f13_9 (by decide +kernel) (by decide) ck16
  rw [show (1 : Int32).toInt.toNat = 1 from rfl, ck16b.1, ck16b.2] at z13
  exact z13
theorem fx_14 {σ : Sig} (hX : TX FT FL σ) (i16_ : Iv g16_) : f9_readCommand (XS FT FL σ 181 g16_) = some (XS FT FL σ 189 g17_) := by
  obtain ⟨f14_1, f14_2, f14_3, f14_4, f14_5, f14_6, f14_7⟩ := ft_14
  have z := xr_lost (a := 0) hX g16_ i16_ ⟨by decide, by decide, by decide⟩ f14_2 f14_1 f14_4 f14_5 f14_3 f14_7 f14_6 (by decide +kernel) (by decide +kernel)
  rw [show (0 : Int32).toInt.toNat = 0 from rfl] at z
  exact z
theorem found_x {σ : Sig} (hX : TX FT FL σ) (hz : σ (10 + 1) = Z0) (hi : Iv g9_ ∧ Iv g10_ ∧ Iv g11_ ∧ Iv g12_ ∧ Iv g13_ ∧ Iv g14_ ∧ Iv g15_ ∧ Iv g16_) : f9_execute σ = some (XS FT FL σ 189 g17_) := by
  obtain ⟨i9, i10_, i11_, i12_, i13_, i14_, i15_, i16_⟩ := hi
  obtain ⟨f0_1, f0_2, f0_3, f0_4, f0_5, f0_6, f0_7, f0_8, f0_9, f0_10, f0_11, f0_12, f0_13⟩ := ft_0
  obtain ⟨f1_1, f1_2, f1_3, f1_4, f1_5, f1_6, f1_7, f1_8, f1_9, f1_10, f1_11, f1_12, f1_13, f1_14, f1_15, f1_16⟩ := ft_1
  obtain ⟨f2_1, f2_2, f2_3, f2_4, f2_5, f2_6, f2_7, f2_8, f2_9, f2_10, f2_11, f2_12, f2_13, f2_14, f2_15, f2_16⟩ := ft_2
  obtain ⟨f3_1, f3_2, f3_3, f3_4, f3_5, f3_6, f3_7, f3_8, f3_9, f3_10, f3_11, f3_12, f3_13, f3_14, f3_15, f3_16⟩ := ft_3
  obtain ⟨f4_1, f4_2, f4_3, f4_4, f4_5, f4_6, f4_7, f4_8, f4_9, f4_10, f4_11, f4_12, f4_13, f4_14, f4_15⟩ := ft_4
  obtain ⟨f5_1, f5_2, f5_3, f5_4, f5_5, f5_6, f5_7, f5_8, f5_9, f5_10, f5_11, f5_12, f5_13, f5_14, f5_15⟩ := ft_5
  obtain ⟨f6_1, f6_2, f6_3, f6_4, f6_5, f6_6, f6_7, f6_8, f6_9, f6_10, f6_11, f6_12, f6_13, f6_14, f6_15⟩ := ft_6
  obtain ⟨f7_1, f7_2, f7_3, f7_4, f7_5, f7_6, f7_7⟩ := ft_7
  obtain ⟨f8_1, f8_2, f8_3, f8_4, f8_5, f8_6, f8_7, f8_8, f8_9, f8_10⟩ := ft_8
  obtain ⟨f9_1, f9_2, f9_3, f9_4, f9_5, f9_6, f9_7, f9_8, f9_9, f9_10⟩ := ft_9
  obtain ⟨f10_1, f10_2, f10_3, f10_4, f10_5, f10_6, f10_7, f10_8, f10_9, f10_10⟩ := ft_10
  obtain ⟨f11_1, f11_2, f11_3, f11_4, f11_5, f11_6, f11_7⟩ := ft_11
  obtain ⟨f12_1, f12_2, f12_3, f12_4, f12_5, f12_6, f12_7, f12_8, f12_9, f12_10⟩ := ft_12
  obtain ⟨f13_1, f13_2, f13_3, f13_4, f13_5, f13_6, f13_7, f13_8, f13_9, f13_10⟩ := ft_13
  obtain ⟨f14_1, f14_2, f14_3, f14_4, f14_5, f14_6, f14_7⟩ := ft_14
  have ex0' : up (up σ 0 3 2 0) 0 3 3 (-1) = XB σ (σ 0 4 2) (σ 0 4 3) (σ 0 4 4) 0 (-1) := by
    have h1 := XB_u32 σ (σ 0 4 2) (σ 0 4 3) (σ 0 4 4) (σ 0 3 2) (σ 0 3 3) 0
    have h2 := XB_u33 σ (σ 0 4 2) (σ 0 4 3) (σ 0 4 4) 0 (σ 0 3 3) (-1)
    rw [XB_self] at h1
    rw [h1, h2]
  have er : f4_reset 10 σ = some (xg σ 10 g0) := by
    have h := x_reset σ 10 (σ (10 + 1))
    rw [xg_self, hz] at h
    exact h
  have x1 : f6_readNext (xg (XB σ (σ 0 4 2) (σ 0 4 3) 0 0 (-1)) 10 g0) = some (XS FT FL σ 0 g0) := x_read hX _ _ _ _ _ (Nat.zero_le _)
  have x2 : f6_readNext (XS FT FL σ 0 g0) = some (XS FT FL σ 6 g0) := by
    have h := x_next hX g0 (p := 0) (Nat.zero_le _) (-1)
    rw [f0_1] at h
    exact h
  have y1 : f9_readPrice (XS FT FL σ 6 g0) = some (XS FT FL σ 9 g1_) := x_price1 hX g0 (N := 0) (by decide) (by decide +kernel) (by decide) f0_4 f0_5 f0_3 (by decide)
  have y2 : f9_readPrice (XS FT FL σ 9 g1_) = some (XS FT FL σ 12 g2_) := x_price1 hX g1_ (N := 1) (by decide) (by decide +kernel) (by decide) f0_7 f0_8 f0_6 (by decide)
  have y3 : f9_readPrice (XS FT FL σ 12 g2_) = some (XS FT FL σ 15 g3_) := x_price1 hX g2_ (N := 2) (by decide) (by decide +kernel) (by decide) f0_10 f0_11 f0_9 (by decide)
  have y4 : f9_readGarden_b31 FU 1 (XS FT FL σ 9 g1_) = some (XS FT FL σ 16 g3_) := by
    rw [show FU = 997 + 1 + 1 + 1 from rfl, x_more hX g1_ (by decide) f0_7 y2, x_more hX g2_ (by decide) f0_10 y3, x_done hX g3_ (by decide) (by decide) f0_13 f0_12]
  have gar : f9_readGarden (XS FT FL σ 0 g0) = some (XS FT FL σ 16 g3_) := by
    unfold f9_readGarden
    rw [x_isWord hX g0 (Nat.zero_le _) _ _ (by decide)]
    simp only [bnd_eq, i10, f0_2, not_true_eq_false, ↓reduceIte, e10]
    rw [x2]
    simp only [bnd_eq]
    rw [y1]
    simp only [bnd_eq]
    exact y4
  have c1 := fx_1 hX
  have c2 := fx_2 hX
  have c3 := fx_3 hX
  have c4 := fx_4 hX
  have c5 := fx_5 hX
  have c6 := fx_6 hX
  have c7 := fx_7 hX i9
  have c8 := fx_8 hX i10_
  have c9 := fx_9 hX i11_
  have c10 := fx_10 hX i12_
  have c11 := fx_11 hX i13_
  have c12 := fx_12 hX i14_
  have c13 := fx_13 hX i15_
  have c14 := fx_14 hX i16_
  have run : f9_execute_b30 FU 0 (XS FT FL σ 16 g3_) = some (XS FT FL σ 189 g17_) := by
    show f9_execute_b30 (985 + 1 + 1 + 1 + 1 + 1 + 1 + 1 + 1 + 1 + 1 + 1 + 1 + 1 + 1 + 1) (Int32.ofNat 0) (XS FT FL σ 16 g3_) = some (XS FT FL σ 189 g17_)
    rw [xstep hX _ (by decide) (isw_k f1_2) c1, xstep hX _ (by decide) (isw_k f2_2) c2, xstep hX _ (by decide) (isw_k f3_2) c3, xstep hX _ (by decide) (isw_k f4_2) c4, xstep hX _ (by decide) (isw_k f5_2) c5, xstep hX _ (by decide) (isw_k f6_2) c6, xstep hX _ (by decide) (isw_k f7_2) c7, xstep hX _ (by decide) (isw_k f8_2) c8, xstep hX _ (by decide) (isw_k f9_2) c9, xstep hX _ (by decide) (isw_k f10_2) c10, xstep hX _ (by decide) (isw_k f11_2) c11, xstep hX _ (by decide) (isw_k f12_2) c12, xstep hX _ (by decide) (isw_k f13_2) c13, xstep hX _ (by decide) (isw_k f14_2) c14, xstop hX _ ft_end]
  unfold f9_execute f6_readFirst
  rw [er]
  simp only [bnd_eq, nm_eq, up_xg0, ex0', XB_u44, x1, gar, run]
/-! the class alone, out of the whole check's mathematics -/
def FN : Nat → Int32 := fun i => vp_nar .byte (FT i).toInt8.toInt32
theorem fn_bt {i : Nat} (h : i < FL) : bt (FN i) (FT i) := by
  have h1 := ft_low i h
  have h2 := bt_low (FT i)
  have h3 := and255 (FT i)
  rw [show FT i &&& 255 = FT i from ti_ext (by omega)] at h2
  exact h2
theorem fill_l {s : Sig} (hs : s 0 4 1 = Int32.ofNat FL) : ∀ (fu k : Nat), k ≤ FL → FL < fu + k → f6_fill_b16 0 fu (Int32.ofNat k) (ur s 0 5 (cpl k FN (s 0 5))) = some (ur s 0 5 (cpl FL FN (s 0 5))) := by
  have hl : FL = 189 := rfl
  intro fu
  induction fu with
  | zero => intro k h1 h2; omega
  | succ fu ih =>
    intro k h1 h2
    have ek := oN k (by omega)
    have eL := oN FL (by omega)
    rw [f6_fill_b16]
    simp only [nm_eq, ur_ne _ _ (show ¬ (0 = 0 ∧ 4 = 5) by decide), hs]
    by_cases hk : k = FL
    · rw [if_pos (by rw [Int32.le_iff_toInt_le, ek, eL]; omega), hk]
    · rw [if_neg (by rw [Int32.le_iff_toInt_le, ek, eL]; omega), ald_in (by rw [ek, ft_len]; omega), ast_in (by rw [ek]; omega), ek]
      simp only [Int.toNat_natCast, up_urc, oN1]
      rw [show vp_nar .byte (strA 0 k).toInt8.toInt32 = FN k from rfl, cpl_s]
      exact ih (k + 1) (by omega) (by omega)
theorem fill_ok (σ : Sig) : ∃ σ1, f6_fill 0 σ = some σ1 ∧ TX FT FL σ1 ∧ ∀ g c, ¬ (g = 0 ∧ (c = 4 ∨ c = 5)) → σ1 g c = σ g c := by
  have hl : FL = 189 := rfl
  have h5 : (500 : Int32).toInt = 500 := rfl
  have hs : up σ 0 4 1 (Int32.ofNat FL) 0 4 1 = Int32.ofNat FL := by rw [up_self, upd_at]
  have h := fill_l hs FU 0 (by omega) (by unfold FU; omega)
  rw [cpl_0, ur_selfc] at h
  refine ⟨ur (up σ 0 4 1 (Int32.ofNat FL)) 0 5 (cpl FL FN (up σ 0 4 1 (Int32.ofNat FL) 0 5)), ?_, ⟨?_, by omega, fun i hi => ?_⟩, fun g c hgc => ?_⟩
  · unfold f6_fill
    simp only [nm_eq]
    rw [ft_len, if_pos (by rw [Int32.lt_iff_toInt_lt, oN _ (by omega), h5]; omega)]
    exact h
  · rw [ur_ne _ _ (by decide)]; exact hs
  · rw [ur_self, cpl_lt _ _ hi]; exact fn_bt hi
  · rw [ur_ne _ _ (by omega), up_ne _ _ _ (by omega)]
