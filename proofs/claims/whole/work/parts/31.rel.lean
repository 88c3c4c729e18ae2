/-! THE MATHEMATICS, 12: what joins the two objects; how a call is told -/
/-- a byte of the class's input, and of the reference's text -/
def bt (x y : Int32) : Prop := (0 ≤ y.toInt ∧ y.toInt ≤ 127 ∧ x = y) ∨ (128 ≤ y.toInt ∧ y.toInt ≤ 255 ∧ x.toInt = y.toInt - 256)
def INr (σ τ : Sig) : Prop := σ 0 4 1 = τ 0 0 8 ∧ 0 ≤ (τ 0 0 8).toInt ∧ (τ 0 0 8).toInt ≤ 500 ∧ ∀ i : Nat, (i : Int) < (τ 0 0 8).toInt → bt (σ 0 5 i) (τ 0 5 i)
def ERr (σ τ : Sig) : Prop := σ 0 3 2 = τ 0 0 17 ∧ σ 0 3 3 = τ 0 0 18
def RPr (σ τ : Sig) : Prop := σ 0 6 1 = τ 0 0 10 ∧ 0 ≤ (τ 0 0 10).toInt ∧ (τ 0 0 10).toInt ≤ 14 ∧ ∀ i : Nat, (i : Int) < (τ 0 0 10).toInt → σ 0 7 i = τ 0 6 i
def SNr (σ τ : Sig) : Prop := σ 0 0 6 = τ 0 0 5 ∧ (σ 0 0 6 = 0 ∨ σ 0 0 6 = 1) ∧ (¬ σ 0 0 6 = 0 → GP (σ 10) (τ 0 3))
/-- the class's object and the reference's are in step -/
def Rl (σ τ : Sig) : Prop := GP (σ 9) (τ 0 1) ∧ HR σ τ ∧ SNr σ τ ∧ INr σ τ ∧ ERr σ τ ∧ RPr σ τ
/-- what of the reference matters -/
def EM' (τ τ' : Sig) : Prop := (∀ c, ¬ c = 0 → τ' 0 c = τ 0 c) ∧ ∀ j, ¬ j = 0 → τ' 0 0 j = τ 0 0 j
theorem HR.em {σ τ τ' : Sig} (h : HR σ τ) (e : EM' τ τ') : HR σ τ' := by
  obtain ⟨c, x, h1, h2, h3, h4, h5, h6, h7, h8⟩ := h
  refine ⟨c, x, h1, h2, h3, h4, ?_, ?_, ?_, ?_⟩
  · rw [e.2 3 (by decide)]; exact h5
  · rw [e.1 2 (by decide)]; exact h6
  · rw [e.1 2 (by decide)]; exact h7
  · intro i hi
    have := h6 i (by omega)
    rw [e.1 2 (by decide), e.1 _ (by omega)]
    exact h8 i hi
theorem Rl.em {σ τ τ' : Sig} (h : Rl σ τ) (e : EM' τ τ') : Rl σ τ' := by
  obtain ⟨h1, h2, h3, h4, h5, h6⟩ := h
  refine ⟨?_, h2.em e, ?_, ?_, ?_, ?_⟩
  · rw [e.1 1 (by decide)]; exact h1
  · unfold SNr; rw [e.2 5 (by decide), e.1 3 (by decide)]; exact h3
  · unfold INr; rw [e.2 8 (by decide), e.1 5 (by decide)]; exact h4
  · unfold ERr; rw [e.2 17 (by decide), e.2 18 (by decide)]; exact h5
  · unfold RPr; rw [e.2 10 (by decide), e.1 6 (by decide)]; exact h6
theorem em_th (τ : Sig) (v : Int32) : EM' τ (up τ 0 0 0 v) := ⟨fun c hc => up_ne _ _ _ (by omega), fun j hj => by rw [up_self, upd_ne _ _ hj]⟩
theorem Rl.th {σ τ : Sig} (h : Rl σ τ) (v : Int32) : Rl σ (up τ 0 0 0 v) := h.em (em_th τ v)
theorem Rl.thm {σ τ : Sig} {w : Rw} (h : Rl σ (mr τ w)) (v : Int32) : Rl σ (mr (up τ 0 0 0 v) w) := by
  rw [← up_mr0]; exact h.th v
theorem Rl.gp {σ τ : Sig} {G : Gd} {w : Rw} (h : Rl (xg σ 8 G) (mr τ w)) : GP G w := by
  have q := h.1
  rw [mr_at, show xg σ 8 G 9 = G from funext (fun c => xg_at σ 8 G c)] at q
  exact q
theorem th_mr (τ : Sig) (w : Rw) : mr τ w 0 0 = τ 0 0 := mr_ne τ w (by decide)
theorem th_at (τ : Sig) (v : Int32) : up τ 0 0 0 v 0 0 0 = v := by rw [up_self, upd_at]
theorem th_ne (τ : Sig) (v : Int32) {j : Nat} (h : ¬ j = 0) : up τ 0 0 0 v 0 0 j = τ 0 0 j := by rw [up_self, upd_ne _ _ h]
/-- another garden of the class, another row of the reference -/
theorem Rl.put {σ τ : Sig} {G G' : Gd} {w w' : Rw} (h : Rl (xg σ 8 G) (mr τ w)) (hg : GP G' w') : Rl (xg σ 8 G') (mr τ w') := by
  obtain ⟨h1, h2, h3, h4, h5, h6⟩ := h
  have a : ∀ (G : Gd) n, ¬ n = 8 → xg σ 8 G (n + 1) = σ (n + 1) := fun G n hn => funext fun c => xg_ne σ G c (by omega)
  have b : ∀ (w : Rw) c, ¬ c = 1 → mr τ w 0 c = τ 0 c := fun w c hc => mr_ne τ w (by omega)
  refine ⟨?_, ?_, ?_, ?_, ?_, ?_⟩
  · rw [mr_at, show xg σ 8 G' 9 = G' from funext (fun c => xg_at σ 8 G' c)]; exact hg
  · obtain ⟨c, x, k1, k2, k3, k4, k5, k6, k7, k8⟩ := h2
    simp only [xg_0, b _ 0 (by decide), b _ 2 (by decide)] at k1 k2 k5 k6 k7 k8
    refine ⟨c, x, ?_, ?_, k3, k4, ?_, ?_, ?_, ?_⟩
    · rw [xg_0]; exact k1
    · rw [xg_0]; exact k2
    · rw [b _ 0 (by decide)]; exact k5
    · rw [b _ 2 (by decide)]; exact k6
    · rw [b _ 2 (by decide)]; exact k7
    · intro i hi
      have q := k8 i hi
      have r := k6 i (by omega)
      rw [a _ _ (by omega), b _ _ (by omega)] at q
      rw [a _ _ (by omega), b _ 2 (by decide), b _ _ (by omega)]
      exact q
  · unfold SNr at h3 ⊢
    rw [xg_0, b _ 0 (by decide), b _ 3 (by decide), a _ 9 (by decide)] at h3 ⊢
    exact h3
  · unfold INr at h4 ⊢
    rw [b _ 0 (by decide), b _ 5 (by decide)] at h4 ⊢
    simp only [xg_0] at h4 ⊢
    exact h4
  · unfold ERr at h5 ⊢
    rw [b _ 0 (by decide)] at h5 ⊢
    simp only [xg_0] at h5 ⊢
    exact h5
  · unfold RPr at h6 ⊢
    rw [b _ 0 (by decide), b _ 6 (by decide)] at h6 ⊢
    simp only [xg_0] at h6 ⊢
    exact h6
/-- behind a memory of both, any garden and row in step will do -/
theorem rem_ok {σ τ : Sig} {G : Gd} {w : Rw} (h : Rl (xg σ 8 G) (mr τ w)) : ∃ σ1 τ1, f5_remember 8 (xg σ 8 G) = some (xg σ1 8 G) ∧ f12_remember 1 (mr τ w) = some (mr τ1 w) ∧ τ1 0 0 0 = τ 0 0 0 ∧ ∀ G' w', GP G' w' → Rl (xg σ1 8 G') (mr τ1 w') := by
  obtain ⟨σ1, τ1, q1, q2, hh, kx, km⟩ := remember_ok (Or.inl rfl) h.1 h.2.1
  have e1 : σ1 9 = G := by rw [kx.1 8 (by omega)]; exact funext (fun c => xg_at σ 8 G c)
  have e2 : τ1 0 1 = w := by rw [km.1 1 (by decide) (by decide) (by decide), mr_at]
  have f1 : xg σ1 8 G = σ1 := by rw [← e1]; exact xg_self σ1 8
  have f2 : mr τ1 w = τ1 := by rw [← e2]; exact mr_self τ1
  refine ⟨σ1, τ1, by rw [q1, f1], by rw [q2, f2], ?_, fun G' w' hg => ?_⟩
  · rw [km.2 0 (by decide), th_mr]
  · have base : Rl (xg σ1 8 G) (mr τ1 w) := by
      rw [f1, f2]
      obtain ⟨h1, h2, h3, h4, h5, h6⟩ := h
      refine ⟨?_, hh, ?_, ?_, ?_, ?_⟩
      · rw [kx.1 8 (by omega), km.1 1 (by decide) (by decide) (by decide)]; exact h1
      · unfold SNr; rw [kx.2 0 (by decide), kx.1 9 (by omega), km.1 3 (by decide) (by decide) (by decide), km.2 5 (by decide)]; exact h3
      · unfold INr; rw [kx.2 4 (by decide), kx.2 5 (by decide), km.2 8 (by decide), km.1 5 (by decide) (by decide) (by decide)]; exact h4
      · unfold ERr; rw [kx.2 3 (by decide), km.2 17 (by decide), km.2 18 (by decide)]; exact h5
      · unfold RPr; rw [kx.2 6 (by decide), kx.2 7 (by decide), km.2 10 (by decide), km.1 6 (by decide) (by decide) (by decide)]; exact h6
    exact base.put hg
-- how calls are told: l: the exceptions that the law's wrapper catches, in order
def OKx (l : List Nat) (X : Option Xe) (M : Option (Int32 × Sig)) : Prop := ∃ (q : Xe) (r : Int32) (τ' : Sig), X = some q ∧ M = some (r, τ') ∧ Rl q.2.2 τ' ∧ ((q.1 = 0 ∧ τ' 0 0 0 = 0 ∧ r = q.2.1) ∨ ∃ i : Nat, l[i]? = some q.1 ∧ ¬ q.1 = 0 ∧ τ' 0 0 0 = Int32.ofNat (i + 1))
def OKi (X M : Option (Int32 × Sig)) : Prop := ∃ r σ' τ', X = some (r, σ') ∧ M = some (r, τ') ∧ Rl σ' τ'
def OKp (σ : Sig) (X : Option Int32) (M : Option (Int32 × Sig)) : Prop := ∃ r τ', X = some r ∧ M = some (r, τ') ∧ Rl σ τ'
theorem OKx.bad {l : List Nat} {σ τ : Sig} {k : Nat} {v r c : Int32} (i : Nat) (hl : l[i]? = some k) (hk : ¬ k = 0) (hc : c = Int32.ofNat (i + 1)) {w : Rw} (h : Rl σ (mr τ w)) : OKx l (some (k, v, σ)) (some (r, mr (up τ 0 0 0 c) w)) := ⟨_, _, _, rfl, rfl, h.thm c, Or.inr ⟨i, hl, hk, by rw [th_mr, th_at, hc]⟩⟩
theorem OKx.good {l : List Nat} {σ τ : Sig} {r : Int32} (h : Rl σ τ) (h0 : τ 0 0 0 = 0) : OKx l (some (0, r, σ)) (some (r, τ)) := ⟨_, _, _, rfl, rfl, h, Or.inl ⟨rfl, h0, rfl⟩⟩
-- what calls require
theorem x_range (v lo hi : Int32) (σ : Sig) : f11_requireRange v lo hi σ = if lo.toInt ≤ v.toInt ∧ v.toInt ≤ hi.toInt then some (0, 0, σ) else some (1, 0, σ) := by
  unfold f11_requireRange f11_requireRange_b10
  simp only [Int32.lt_iff_toInt_lt, Int32.le_iff_toInt_le, ← Int32.toInt_inj, Int32.reduceToInt, Int.reduceEq, Int.reduceLT, Int.reduceLE, Int.reduceNeg, ↓reduceIte, not_true_eq_false, not_false_eq_true]
  repeat' split
  all_goals first | rfl | (exfalso; omega)
theorem m_outside (v lo hi c : Int32) (τ : Sig) (w : Rw) : f12_outside v lo hi c (mr τ w) = if lo.toInt ≤ v.toInt ∧ v.toInt ≤ hi.toInt then some (0, mr τ w) else some (1, mr (up τ 0 0 0 c) w) := by
  unfold f12_outside f12_outside_b10
  simp only [Int32.lt_iff_toInt_lt, Int32.le_iff_toInt_le, ← Int32.toInt_inj, Int32.reduceToInt, Int.reduceEq, Int.reduceLT, Int.reduceLE, Int.reduceNeg, ↓reduceIte, not_true_eq_false, not_false_eq_true, nm_ap, up_mr0]
  repeat' split
  all_goals first | rfl | (exfalso; omega)
theorem x_state (v : Int32) (σ : Sig) : f11_requireState v σ = if v = 0 then some (3, 0, σ) else some (0, 0, σ) := rfl
theorem m_raise0 (c : Int32) (τ : Sig) (w : Rw) : f12_raise 0 c (mr τ w) = some (0, mr τ w) := rfl
theorem m_raise1 (c : Int32) (τ : Sig) (w : Rw) : f12_raise 1 c (mr τ w) = some (1, mr (up τ 0 0 0 c) w) := by
  unfold f12_raise
  simp only [nm_ap, e10, if_false, up_mr0, gz_1]
theorem x_pass (v : Int32) (σ : Sig) (G : Gd) : f11_requirePass v (xg σ 8 G) = if 0 ≤ v.toInt ∧ v.toInt < (G 4 0).toInt then some (0, 0, xg σ 8 G) else some (2, 0, xg σ 8 G) := by
  unfold f11_requirePass
  rw [x_has7]
  simp only [nm_ap, bnd_ap, bns_ap, bnx_ap0, bnx_ap1, bnx_ap2, bnx_ap3, bnx_ap4, gz_0, gz_1, dvd_96, dvd_2, dvd_10000, rmd_96, rmd_8, xg_at, xg_0, mr_at, up_xg, up_mr, narz_0, narz_1, i10, i01, i11, i00, ↓reduceIte, e10, e01, e50, e51, e20, e60, e70, e30, e40, Classical.not_not, not_true_eq_false, not_false_eq_true]
  repeat' split
  all_goals first | rfl | (exfalso; omega)
theorem x_bedq (v : Int32) (σ : Sig) (G : Gd) : f11_requireBed v (xg σ 8 G) = if 0 ≤ v.toInt ∧ v.toInt < (G 3 0).toInt then some (0, 0, xg σ 8 G) else some (2, 0, xg σ 8 G) := by
  unfold f11_requireBed
  rw [x_has0]
  simp only [nm_ap, bnd_ap, bns_ap, bnx_ap0, bnx_ap1, bnx_ap2, bnx_ap3, bnx_ap4, gz_0, gz_1, dvd_96, dvd_2, dvd_10000, rmd_96, rmd_8, xg_at, xg_0, mr_at, up_xg, up_mr, narz_0, narz_1, i10, i01, i11, i00, ↓reduceIte, e10, e01, e50, e51, e20, e60, e70, e30, e40, Classical.not_not, not_true_eq_false, not_false_eq_true]
  repeat' split
  all_goals first | rfl | (exfalso; omega)
theorem x_cardq (v : Int32) (σ : Sig) (G : Gd) : f11_requireCard v (xg σ 8 G) = if 0 ≤ v.toInt ∧ v.toInt < (G 5 0).toInt then some (0, 0, xg σ 8 G) else some (2, 0, xg σ 8 G) := by
  unfold f11_requireCard
  rw [x_has2]
  simp only [nm_ap, bnd_ap, bns_ap, bnx_ap0, bnx_ap1, bnx_ap2, bnx_ap3, bnx_ap4, gz_0, gz_1, dvd_96, dvd_2, dvd_10000, rmd_96, rmd_8, xg_at, xg_0, mr_at, up_xg, up_mr, narz_0, narz_1, i10, i01, i11, i00, ↓reduceIte, e10, e01, e50, e51, e20, e60, e70, e30, e40, Classical.not_not, not_true_eq_false, not_false_eq_true]
  repeat' split
  all_goals first | rfl | (exfalso; omega)
theorem x_scentq (v : Int32) (σ : Sig) (G : Gd) : f11_requireScent v (xg σ 8 G) = if 0 ≤ v.toInt ∧ v.toInt < (G 2 0).toInt then some (0, 0, xg σ 8 G) else some (2, 0, xg σ 8 G) := by
  unfold f11_requireScent
  rw [x_has10]
  simp only [nm_ap, bnd_ap, bns_ap, bnx_ap0, bnx_ap1, bnx_ap2, bnx_ap3, bnx_ap4, gz_0, gz_1, dvd_96, dvd_2, dvd_10000, rmd_96, rmd_8, xg_at, xg_0, mr_at, up_xg, up_mr, narz_0, narz_1, i10, i01, i11, i00, ↓reduceIte, e10, e01, e50, e51, e20, e60, e70, e30, e40, Classical.not_not, not_true_eq_false, not_false_eq_true]
  repeat' split
  all_goals first | rfl | (exfalso; omega)
theorem x_set (v : Int32) (σ : Sig) (G : Gd) : f11_requireSetOfScents v (xg σ 8 G) = if 1 ≤ v.toInt ∧ v.toInt ≤ (SA G).toInt then some (0, 0, xg σ 8 G) else some (1, 0, xg σ 8 G) := by
  unfold f11_requireSetOfScents
  rw [x_all]
  simp only [nm_ap, bnd_ap, bns_ap, bnx_ap0, bnx_ap1, bnx_ap2, bnx_ap3, bnx_ap4, gz_0, gz_1, dvd_96, dvd_2, dvd_10000, rmd_96, rmd_8, xg_at, xg_0, mr_at, up_xg, up_mr, narz_0, narz_1, i10, i01, i11, i00, ↓reduceIte, e10, e01, e50, e51, e20, e60, e70, e30, e40, Classical.not_not, not_true_eq_false, not_false_eq_true, x_range, Int32.reduceToInt]
  repeat' split
  all_goals rfl
theorem m_no {G : Gd} {x v : Int32} (τ : Sig) (w : Rw) (hx : 0 ≤ x.toInt ∧ x.toInt ≤ 100) : bns (f12_outside v 0 (x - 1) 1 (mr τ w)) (fun v3 s4 => gz v3 (some (v3, s4))) = if 0 ≤ v.toInt ∧ v.toInt < x.toInt then some (0, mr τ w) else some (1, mr (up τ 0 0 0 1) w) := by
  have e : (x - 1).toInt = x.toInt - 1 := tv_sub rfl rfl (by omega)
  have e0 : (0 : Int32).toInt = 0 := rfl
  rw [m_outside, e, e0]
  by_cases h : 0 ≤ v.toInt ∧ v.toInt < x.toInt
  · rw [if_pos h, if_pos (by omega)]; rfl
  · rw [if_neg h, if_neg (by omega)]; rfl
theorem m_noPass {G : Gd} {w : Rw} (h : GP G w) (v : Int32) (τ : Sig) : f12_noPass v (mr τ w) = if 0 ≤ v.toInt ∧ v.toInt < (G 4 0).toInt then some (0, mr τ w) else some (1, mr (up τ 0 0 0 1) w) := by
  have h0 := h.2.1
  unfold f12_noPass
  simp only [nm_ap, bnd_ap, bns_ap, bnx_ap0, bnx_ap1, bnx_ap2, bnx_ap3, bnx_ap4, gz_0, gz_1, dvd_96, dvd_2, dvd_10000, rmd_96, rmd_8, xg_at, xg_0, mr_at, up_xg, up_mr, narz_0, narz_1, i10, i01, i11, i00, ↓reduceIte, e10, e01, e50, e51, e20, e60, e70, e30, e40, Classical.not_not, not_true_eq_false, not_false_eq_true, al_0, al_1, al_2, al_3, al_4, al_5, al_6, al_7, al_8, al_9, al_10, al_11, al_12, al_13, al_14, h.1.s2]
  exact m_no (G := G) τ w (by omega)
theorem m_noBed {G : Gd} {w : Rw} (h : GP G w) (v : Int32) (τ : Sig) : f12_noBed v (mr τ w) = if 0 ≤ v.toInt ∧ v.toInt < (G 3 0).toInt then some (0, mr τ w) else some (1, mr (up τ 0 0 0 1) w) := by
  have h0 := h.2.1
  unfold f12_noBed
  simp only [nm_ap, bnd_ap, bns_ap, bnx_ap0, bnx_ap1, bnx_ap2, bnx_ap3, bnx_ap4, gz_0, gz_1, dvd_96, dvd_2, dvd_10000, rmd_96, rmd_8, xg_at, xg_0, mr_at, up_xg, up_mr, narz_0, narz_1, i10, i01, i11, i00, ↓reduceIte, e10, e01, e50, e51, e20, e60, e70, e30, e40, Classical.not_not, not_true_eq_false, not_false_eq_true, al_0, al_1, al_2, al_3, al_4, al_5, al_6, al_7, al_8, al_9, al_10, al_11, al_12, al_13, al_14, h.1.s1]
  exact m_no (G := G) τ w (by omega)
theorem m_noCard {G : Gd} {w : Rw} (h : GP G w) (v : Int32) (τ : Sig) : f12_noCard v (mr τ w) = if 0 ≤ v.toInt ∧ v.toInt < (G 5 0).toInt then some (0, mr τ w) else some (1, mr (up τ 0 0 0 1) w) := by
  have h0 := h.2.1
  unfold f12_noCard
  simp only [nm_ap, bnd_ap, bns_ap, bnx_ap0, bnx_ap1, bnx_ap2, bnx_ap3, bnx_ap4, gz_0, gz_1, dvd_96, dvd_2, dvd_10000, rmd_96, rmd_8, xg_at, xg_0, mr_at, up_xg, up_mr, narz_0, narz_1, i10, i01, i11, i00, ↓reduceIte, e10, e01, e50, e51, e20, e60, e70, e30, e40, Classical.not_not, not_true_eq_false, not_false_eq_true, al_0, al_1, al_2, al_3, al_4, al_5, al_6, al_7, al_8, al_9, al_10, al_11, al_12, al_13, al_14, h.1.s3]
  exact m_no (G := G) τ w (by omega)
theorem m_noScent {G : Gd} {w : Rw} (h : GP G w) (v : Int32) (τ : Sig) : f12_noScent v (mr τ w) = if 0 ≤ v.toInt ∧ v.toInt < (G 2 0).toInt then some (0, mr τ w) else some (1, mr (up τ 0 0 0 1) w) := by
  have h0 := h.2.1
  unfold f12_noScent
  simp only [nm_ap, bnd_ap, bns_ap, bnx_ap0, bnx_ap1, bnx_ap2, bnx_ap3, bnx_ap4, gz_0, gz_1, dvd_96, dvd_2, dvd_10000, rmd_96, rmd_8, xg_at, xg_0, mr_at, up_xg, up_mr, narz_0, narz_1, i10, i01, i11, i00, ↓reduceIte, e10, e01, e50, e51, e20, e60, e70, e30, e40, Classical.not_not, not_true_eq_false, not_false_eq_true, al_0, al_1, al_2, al_3, al_4, al_5, al_6, al_7, al_8, al_9, al_10, al_11, al_12, al_13, al_14, h.1.s0]
  exact m_no (G := G) τ w (by omega)
