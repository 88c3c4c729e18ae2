/-! THE MATHEMATICS, 18: undo, snapshot, input, report -/
theorem Rl.new {σ τ σ3 τ3 : Sig} {G G' : Gd} {w w' : Rw} (h : Rl (xg σ 8 G) (mr τ w)) (kx : (∀ c, ¬ c = 1 → σ3 0 c = σ 0 c) ∧ σ3 10 = σ 10) (km : (∀ c, c = 3 ∨ c = 5 ∨ c = 6 → τ3 0 c = τ 0 c) ∧ ∀ j, ¬ j = 0 → ¬ j = 3 → τ3 0 0 j = τ 0 0 j) (hg : GP G' w') (hh : HR (xg σ3 8 G') (mr τ3 w')) : Rl (xg σ3 8 G') (mr τ3 w') := by
  obtain ⟨h1, h2, h3, h4, h5, h6⟩ := h
  have a : ∀ (σ : Sig) (G : Gd), xg σ 8 G 10 = σ 10 := fun σ G => funext fun c => xg_ne σ G c (by omega)
  have b : ∀ (τ : Sig) (w : Rw) c, ¬ c = 1 → mr τ w 0 c = τ 0 c := fun τ w c hc => mr_ne τ w (by omega)
  refine ⟨?_, hh, ?_, ?_, ?_, ?_⟩
  · rw [mr_at, show xg σ3 8 G' 9 = G' from funext (fun c => xg_at σ3 8 G' c)]; exact hg
  · unfold SNr at h3 ⊢
    rw [xg_0, b _ _ 0 (by decide), b _ _ 3 (by decide), a] at h3 ⊢
    rw [kx.1 0 (by decide), kx.2, km.1 3 (by decide), km.2 5 (by decide) (by decide)]
    exact h3
  · unfold INr at h4 ⊢
    rw [b _ _ 0 (by decide), b _ _ 5 (by decide)] at h4 ⊢
    simp only [xg_0] at h4 ⊢
    rw [kx.1 4 (by decide), kx.1 5 (by decide), km.2 8 (by decide) (by decide), km.1 5 (by decide)]
    exact h4
  · unfold ERr at h5 ⊢
    rw [b _ _ 0 (by decide)] at h5 ⊢
    simp only [xg_0] at h5 ⊢
    rw [kx.1 3 (by decide), km.2 17 (by decide) (by decide), km.2 18 (by decide) (by decide)]
    exact h5
  · unfold RPr at h6 ⊢
    rw [b _ _ 0 (by decide), b _ _ 6 (by decide)] at h6 ⊢
    simp only [xg_0] at h6 ⊢
    rw [kx.1 6 (by decide), kx.1 7 (by decide), km.2 10 (by decide) (by decide), km.1 6 (by decide)]
    exact h6
theorem mw2_mr (τ : Sig) (w f : Rw) : mw2 (mr τ w) 1 f = mr τ f := by
  funext g c
  unfold mw2 ur mr
  split <;> rfl
theorem back8 {x : Nat} (hx : x < 8) : (Int32.ofNat x + 8 - 1 - (Int32.ofNat x + 8 - 1) / 8 * 8) = Int32.ofNat ((x + 7) % 8) := by
  have : ∀ x : Fin 8, (Int32.ofNat x.1 + 8 - 1 - (Int32.ofNat x.1 + 8 - 1) / 8 * 8) = Int32.ofNat ((x.1 + 7) % 8) := by decide +kernel
  exact this ⟨x, hx⟩
theorem oNs {c : Nat} (h : 1 ≤ c) : Int32.ofNat c - 1 = Int32.ofNat (c - 1) := (Int32.ofNat_sub c 1 h).symm
theorem oN_ne0 {c : Nat} (h : 1 ≤ c) (h2 : c < 1000) : ¬ Int32.ofNat c = 0 := fun e => by
  have := congrArg Int32.toInt e
  rw [oN _ (by omega), show (0 : Int32).toInt = 0 from rfl] at this
  omega
theorem ok_undo {σ τ : Sig} {G : Gd} {w : Rw} (h : Rl (xg σ 8 G) (mr τ w)) : OKi (f11_undo (xg σ 8 G)) (f12_undo (mr τ w)) := by
  have hg := h.gp
  obtain ⟨c, x, k1, k2, k3, k4, k5, k6, k7, k8⟩ := h.2.1
  have b : ∀ c, ¬ c = 1 → mr τ w 0 c = τ 0 c := fun c hc => mr_ne τ w (by omega)
  have a : ∀ n, ¬ n = 8 → xg σ 8 G (n + 1) = σ (n + 1) := fun n hn => funext fun c => xg_ne σ G c (by omega)
  simp only [xg_0, b _ (show ¬ 0 = 1 by decide), b _ (show ¬ 2 = 1 by decide)] at k1 k2 k5 k6 k7 k8
  unfold f11_undo f12_undo
  simp only [nm_ap, bnd_ap, bns_ap, bnx_ap0, bnx_ap1, bnx_ap2, bnx_ap3, bnx_ap4, gz_0, gz_1, dvd_96, dvd_2, dvd_10000, rmd_96, rmd_8, xg_at, xg_0, mr_at, up_xg, up_mr, narz_0, narz_1, i10, i01, i11, i00, ↓reduceIte, e10, e01, e50, e51, e20, e60, e70, e30, e40, Classical.not_not, not_true_eq_false, not_false_eq_true, up_mr0, k1, th_mr, th_ne τ 0 (show ¬ 3 = 0 by decide), k5]
  by_cases hc : c = 0
  · subst hc
    rw [if_pos (show Int32.ofNat 0 = 0 from rfl), if_pos (show Int32.ofNat 0 = 0 from rfl)]
    exact ⟨_, _, _, rfl, rfl, h.thm 0⟩
  · rw [if_neg (oN_ne0 (by omega) (by omega)), if_neg (oN_ne0 (by omega) (by omega))]
    have hlast := k8 (c - 1) (by omega)
    have hrow := k6 (c - 1) (by omega)
    rw [show (x + 8 - c + (c - 1)) % 8 = (x + 7) % 8 by omega, a _ (by omega), b _ (by omega)] at hlast
    -- the class
    obtain ⟨H', q, ag⟩ := x_copy (σ := up σ 0 1 2 (Int32.ofNat ((x + 7) % 8))) (n := 8) (n1 := (x + 7) % 8) (G := σ ((x + 7) % 8 + 1)) (H := G) (by omega) (funext fun c' => up_ne _ _ _ (by omega)) hlast.2
    have qx : f5_takeBack 8 (xg σ 8 G) = some (xg (up (up σ 0 1 2 (Int32.ofNat ((x + 7) % 8))) 0 1 1 (Int32.ofNat (c - 1))) 8 H') := by
      unfold f5_takeBack
      simp only [nm_ap, bnd_ap, bns_ap, bnx_ap0, bnx_ap1, bnx_ap2, bnx_ap3, bnx_ap4, gz_0, gz_1, dvd_96, dvd_2, dvd_10000, rmd_96, rmd_8, xg_at, xg_0, mr_at, up_xg, up_mr, narz_0, narz_1, i10, i01, i11, i00, ↓reduceIte, e10, e01, e50, e51, e20, e60, e70, e30, e40, Classical.not_not, not_true_eq_false, not_false_eq_true, k2, back8 k4, up_xg0]
      rw [show up σ 0 1 2 (Int32.ofNat ((x + 7) % 8)) 0 1 2 = Int32.ofNat ((x + 7) % 8) from by rw [up_self, upd_at]]
      rw [alr_in (by rw [oN _ (by omega)]; omega), oN _ (by omega), Int.toNat_natCast, q]
      simp only [nm_ap, bnd_ap, bns_ap, bnx_ap0, bnx_ap1, bnx_ap2, bnx_ap3, bnx_ap4, gz_0, gz_1, dvd_96, dvd_2, dvd_10000, rmd_96, rmd_8, xg_at, xg_0, mr_at, up_xg, up_mr, narz_0, narz_1, i10, i01, i11, i00, ↓reduceIte, e10, e01, e50, e51, e20, e60, e70, e30, e40, Classical.not_not, not_true_eq_false, not_false_eq_true, up_xg0]
      rw [show up σ 0 1 2 (Int32.ofNat ((x + 7) % 8)) 0 1 1 = Int32.ofNat c from by rw [up_self, upd_ne _ _ (by decide), k1], oNs (by omega)]
    rw [qx]
    -- the reference
    have e1 : up τ 0 0 0 0 0 2 = τ 0 2 := up_ne _ _ _ (by decide)
    have t2 : up (up τ 0 0 0 0) 0 0 3 (Int32.ofNat (c - 1)) 0 2 = τ 0 2 := by rw [up_ne _ _ _ (by decide : ¬ (0 = 0 ∧ 2 = 0)), e1]
    have t3 : up (up τ 0 0 0 0) 0 0 3 (Int32.ofNat (c - 1)) 0 0 3 = Int32.ofNat (c - 1) := by rw [up_self, upd_at]
    have m2 : mr (up (up τ 0 0 0 0) 0 0 3 (Int32.ofNat (c - 1))) w 0 2 = τ 0 2 := by rw [mr_ne _ _ (by decide), t2]
    rw [oNs (by omega), t3]
    rw [alw_in (k := c - 1) (oN _ (by omega)) (by omega) (by rw [m2]; exact hrow), m2, m_copy (by omega)]
    simp only [nm_ap, bnd_ap, bns_ap, bnx_ap0, bnx_ap1, bnx_ap2, bnx_ap3, bnx_ap4, gz_0, gz_1, dvd_96, dvd_2, dvd_10000, rmd_96, rmd_8, xg_at, xg_0, mr_at, up_xg, up_mr, narz_0, narz_1, i10, i01, i11, i00, ↓reduceIte, e10, e01, e50, e51, e20, e60, e70, e30, e40, Classical.not_not, not_true_eq_false, not_false_eq_true, mw2_mr, th_mr, t3]
    rw [show up (up σ 0 1 2 (Int32.ofNat ((x + 7) % 8))) 0 1 1 (Int32.ofNat (c - 1)) 0 1 1 = Int32.ofNat (c - 1) from by rw [up_self, upd_at], mr_ne _ _ (by omega), up_ne _ _ _ (by omega), up_ne _ _ _ (by omega)]
    refine ⟨_, _, _, rfl, rfl, Rl.new h ⟨fun c' hc' => ?_, ?_⟩ ⟨fun c' hc' => ?_, fun j hj0 hj3 => ?_⟩ ⟨(hlast.1.ag ag).row (hlast.2.ag ag).bd (fun j hj => cpl_lt _ _ hj), hlast.2.ag ag⟩ ⟨c - 1, (x + 7) % 8, ?_, ?_, by omega, by omega, ?_, ?_, ?_, fun i hi => ?_⟩⟩
    · rw [up_ne _ _ _ (by omega), up_ne _ _ _ (by omega)]
    · funext c'
      rw [up_ne _ _ _ (by omega), up_ne _ _ _ (by omega)]
    · rw [up_ne _ _ _ (by omega), up_ne _ _ _ (by omega)]
    · rw [up_self, upd_ne _ _ hj3, th_ne _ _ hj0]
    · rw [xg_0, up_self, upd_at]
    · rw [xg_0, up_self, upd_ne _ _ (by decide), up_self, upd_at]
    · rw [th_mr, up_self, upd_at]
    · rw [mr_ne _ _ (by decide), t2]; exact k6
    · rw [mr_ne _ _ (by decide), t2]; exact k7
    · have q8 := k8 i (by omega)
      have r8 := k6 i (by omega)
      rw [a _ (by omega), b _ (by omega)] at q8
      rw [show ((x + 7) % 8 + 8 - (c - 1) + i) % 8 = (x + 8 - c + i) % 8 by omega]
      rw [show xg (up (up σ 0 1 2 (Int32.ofNat ((x + 7) % 8))) 0 1 1 (Int32.ofNat (c - 1))) 8 H' ((x + 8 - c + i) % 8 + 1) = σ ((x + 8 - c + i) % 8 + 1) from funext fun c' => by rw [xg_ne _ _ _ (by omega), up_ne _ _ _ (by omega), up_ne _ _ _ (by omega)]]
      rw [show mr (up (up τ 0 0 0 0) 0 0 3 (Int32.ofNat (c - 1))) (cpl 536 (τ 0 (τ 0 2 (c - 1)).toInt.toNat) w) 0 2 = τ 0 2 from by rw [mr_ne _ _ (by decide), t2]]
      rw [mr_ne _ _ (by omega), up_ne _ _ _ (by omega), up_ne _ _ _ (by omega)]
      exact q8
theorem ok_undoCount {σ τ : Sig} {G : Gd} {w : Rw} (h : Rl (xg σ 8 G) (mr τ w)) : OKp (xg σ 8 G) (f11_undoCount (xg σ 8 G)) (f12_undoCount (mr τ w)) := by
  obtain ⟨c, x, k1, k2, k3, k4, k5, -⟩ := h.2.1
  rw [xg_0] at k1
  rw [th_mr] at k5
  unfold f11_undoCount f12_undoCount
  simp only [nm_ap, bnd_ap, bns_ap, bnx_ap0, bnx_ap1, bnx_ap2, bnx_ap3, bnx_ap4, gz_0, gz_1, dvd_96, dvd_2, dvd_10000, rmd_96, rmd_8, xg_at, xg_0, mr_at, up_xg, up_mr, narz_0, narz_1, i10, i01, i11, i00, ↓reduceIte, e10, e01, e50, e51, e20, e60, e70, e30, e40, Classical.not_not, not_true_eq_false, not_false_eq_true, up_mr0, k1, th_mr, th_ne τ 0 (show ¬ 3 = 0 by decide), k5]
  exact ⟨_, _, rfl, rfl, h.thm 0⟩
theorem ok_scriptErrorKind {σ τ : Sig} {G : Gd} {w : Rw} (h : Rl (xg σ 8 G) (mr τ w)) : OKp (xg σ 8 G) (f11_scriptErrorKind (xg σ 8 G)) (f12_scriptErrorKind (mr τ w)) := by
  obtain ⟨e1, e2⟩ := h.2.2.2.2.1
  rw [xg_0, th_mr] at e1
  unfold f11_scriptErrorKind f12_scriptErrorKind
  simp only [nm_ap, bnd_ap, bns_ap, bnx_ap0, bnx_ap1, bnx_ap2, bnx_ap3, bnx_ap4, gz_0, gz_1, dvd_96, dvd_2, dvd_10000, rmd_96, rmd_8, xg_at, xg_0, mr_at, up_xg, up_mr, narz_0, narz_1, i10, i01, i11, i00, ↓reduceIte, e10, e01, e50, e51, e20, e60, e70, e30, e40, Classical.not_not, not_true_eq_false, not_false_eq_true, up_mr0, e1, th_mr, th_ne τ 0 (show ¬ 17 = 0 by decide)]
  exact ⟨_, _, rfl, rfl, h.thm 0⟩
theorem ok_scriptErrorOffset {σ τ : Sig} {G : Gd} {w : Rw} (h : Rl (xg σ 8 G) (mr τ w)) : OKp (xg σ 8 G) (f11_scriptErrorOffset (xg σ 8 G)) (f12_scriptErrorOffset (mr τ w)) := by
  obtain ⟨e1, e2⟩ := h.2.2.2.2.1
  rw [xg_0, th_mr] at e2
  unfold f11_scriptErrorOffset f12_scriptErrorOffset
  simp only [nm_ap, bnd_ap, bns_ap, bnx_ap0, bnx_ap1, bnx_ap2, bnx_ap3, bnx_ap4, gz_0, gz_1, dvd_96, dvd_2, dvd_10000, rmd_96, rmd_8, xg_at, xg_0, mr_at, up_xg, up_mr, narz_0, narz_1, i10, i01, i11, i00, ↓reduceIte, e10, e01, e50, e51, e20, e60, e70, e30, e40, Classical.not_not, not_true_eq_false, not_false_eq_true, up_mr0, e2, th_mr, th_ne τ 0 (show ¬ 18 = 0 by decide)]
  exact ⟨_, _, rfl, rfl, h.thm 0⟩
/-- the past stays where its cells stay -/
theorem HR.keep {σ τ σ' τ' : Sig} (h : HR σ τ) (h1 : σ' 0 1 = σ 0 1) (h2 : ∀ n, n < 8 → σ' (n + 1) = σ (n + 1)) (h3 : τ' 0 0 3 = τ 0 0 3) (h4 : τ' 0 2 = τ 0 2) (h5 : ∀ c, 7 ≤ c → c < 15 → τ' 0 c = τ 0 c) : HR σ' τ' := by
  obtain ⟨c, x, k1, k2, k3, k4, k5, k6, k7, k8⟩ := h
  refine ⟨c, x, by rw [h1]; exact k1, by rw [h1]; exact k2, k3, k4, by rw [h3]; exact k5, by rw [h4]; exact k6, by rw [h4]; exact k7, fun i hi => ?_⟩
  have q := k8 i hi
  have r := k6 i (by omega)
  rw [h2 _ (by omega), h4, h5 _ (by omega) (by omega)]
  exact q
theorem ok_saveSnapshot {σ τ : Sig} {G : Gd} {w : Rw} (h : Rl (xg σ 8 G) (mr τ w)) : OKi (f11_saveSnapshot (xg σ 8 G)) (f12_saveSnapshot (mr τ w)) := by
  have hg := h.gp
  have e9 : xg σ 8 G 9 = G := funext (fun c => xg_at σ 8 G c)
  obtain ⟨H', q, ag⟩ := x_copy (σ := xg σ 8 G) (n := 9) (n1 := 8) (G := G) (H := xg σ 8 G 10) (by omega) e9 hg.2
  rw [xg_self] at q
  unfold f11_saveSnapshot f12_saveSnapshot
  rw [q, nm_ap, m_copy (by decide)]
  simp only [nm_ap, bnd_ap]
  have g9 : up (xg (xg σ 8 G) 9 H') 0 0 6 1 (8 + 1) = G := funext fun c => by rw [up_ne _ _ _ (by omega), xg_ne _ _ _ (by omega), xg_at]
  have g10 : up (xg (xg σ 8 G) 9 H') 0 0 6 1 10 = H' := funext fun c => by rw [up_ne _ _ _ (by omega)]; exact xg_at _ 9 _ c
  have gn : ∀ n, n < 8 → up (xg (xg σ 8 G) 9 H') 0 0 6 1 (n + 1) = xg σ 8 G (n + 1) := fun n hn => funext fun c => by rw [up_ne _ _ _ (by omega), xg_ne _ _ _ (by omega)]
  have g0 : ∀ c, ¬ c = 0 → up (xg (xg σ 8 G) 9 H') 0 0 6 1 0 c = xg σ 8 G 0 c := fun c hc => by rw [up_ne _ _ _ (by omega), xg_ne _ _ _ (by omega)]
  have g06 : up (xg (xg σ 8 G) 9 H') 0 0 6 1 0 0 6 = 1 := by rw [up_self, upd_at]
  generalize hs : up (xg (xg σ 8 G) 9 H') 0 0 6 1 = σ' at g9 g10 gn g0 g06 ⊢
  have t1 : up (mr τ w) 0 0 0 0 0 1 = w := by rw [up_ne _ _ _ (by decide), mr_at]
  have t3 : up (mw2 (up (mr τ w) 0 0 0 0) 3 (cpl 536 (up (mr τ w) 0 0 0 0 0 1) (up (mr τ w) 0 0 0 0 0 3))) 0 0 5 1 0 3 = cpl 536 w (up (mr τ w) 0 0 0 0 0 3) := by rw [up_ne _ _ _ (by decide), mw2_at, t1]
  have tn : ∀ c, ¬ c = 0 → ¬ c = 3 → up (mw2 (up (mr τ w) 0 0 0 0) 3 (cpl 536 (up (mr τ w) 0 0 0 0 0 1) (up (mr τ w) 0 0 0 0 0 3))) 0 0 5 1 0 c = mr τ w 0 c := fun c h0 h3 => by rw [up_ne _ _ _ (by omega), mw2_ne _ _ _ (by omega), up_ne _ _ _ (by omega)]
  have tj : ∀ j, ¬ j = 0 → ¬ j = 5 → up (mw2 (up (mr τ w) 0 0 0 0) 3 (cpl 536 (up (mr τ w) 0 0 0 0 0 1) (up (mr τ w) 0 0 0 0 0 3))) 0 0 5 1 0 0 j = mr τ w 0 0 j := fun j h0 h5 => by rw [up_self, upd_ne _ _ h5, mw2_ne _ _ _ (by decide), up_self, upd_ne _ _ h0]
  have t5 : up (mw2 (up (mr τ w) 0 0 0 0) 3 (cpl 536 (up (mr τ w) 0 0 0 0 0 1) (up (mr τ w) 0 0 0 0 0 3))) 0 0 5 1 0 0 5 = 1 := by rw [up_self, upd_at]
  generalize up (mw2 (up (mr τ w) 0 0 0 0) 3 (cpl 536 (up (mr τ w) 0 0 0 0 0 1) (up (mr τ w) 0 0 0 0 0 3))) 0 0 5 1 = τ' at t3 tn tj t5 ⊢
  have w1 : τ' 0 1 = w := by rw [tn 1 (by decide) (by decide), mr_at]
  simp only [w1, al_0, al_1, al_2, al_3, al_4, al_5, al_6, al_7, al_8, al_9, al_10, al_11, al_12, al_13, al_14, hg.1.s4, g9]
  obtain ⟨h1, h2, h3, h4, h5, h6⟩ := h
  refine ⟨_, _, _, rfl, rfl, ?_, ?_, ?_, ?_, ?_, ?_⟩
  · rw [w1, show σ' 9 = G from g9]; exact hg
  · exact h2.keep (g0 1 (by decide)) gn (tj 3 (by decide) (by decide)) (tn 2 (by decide) (by decide)) (fun c h7 h15 => tn c (by omega) (by omega))
  · refine ⟨by rw [g06, t5], Or.inr g06, fun _ => ?_⟩
    rw [g10, t3]
    exact ⟨(hg.1.ag ag).row (hg.2.ag ag).bd (fun j hj => cpl_lt _ _ hj), hg.2.ag ag⟩
  · unfold INr at h4 ⊢
    rw [g0 4 (by decide), g0 5 (by decide), tj 8 (by decide) (by decide), tn 5 (by decide) (by decide)]
    exact h4
  · unfold ERr at h5 ⊢
    rw [g0 3 (by decide), tj 17 (by decide) (by decide), tj 18 (by decide) (by decide)]
    exact h5
  · unfold RPr at h6 ⊢
    rw [g0 6 (by decide), g0 7 (by decide), tj 10 (by decide) (by decide), tn 6 (by decide) (by decide)]
    exact h6
theorem ok_restoreSnapshot {σ τ : Sig} {G : Gd} {w : Rw} (h : Rl (xg σ 8 G) (mr τ w)) : OKx [4] (f11_restoreSnapshot (xg σ 8 G)) (f12_restoreSnapshot (mr τ w)) := by
  have hg := h.gp
  obtain ⟨s1, s2, s3⟩ := h.2.2.1
  have a10 : xg σ 8 G 10 = σ 10 := funext fun c => xg_ne σ G c (by omega)
  rw [xg_0] at s1 s2 s3
  rw [th_mr] at s1
  rw [a10, mr_ne τ w (by decide)] at s3
  unfold f11_restoreSnapshot f12_restoreSnapshot f12_restoreSnapshot_b18
  simp only [nm_ap, bnd_ap, bns_ap, bnx_ap0, bnx_ap1, bnx_ap2, bnx_ap3, bnx_ap4, gz_0, gz_1, dvd_96, dvd_2, dvd_10000, rmd_96, rmd_8, xg_at, xg_0, mr_at, up_xg, up_mr, narz_0, narz_1, i10, i01, i11, i00, ↓reduceIte, e10, e01, e50, e51, e20, e60, e70, e30, e40, Classical.not_not, not_true_eq_false, not_false_eq_true, up_mr0, th_mr, th_ne τ 0 (show ¬ 5 = 0 by decide), ← s1]
  rcases s2 with e | e
  · simp only [e, nm_ap, bnd_ap, bns_ap, bnx_ap0, bnx_ap1, bnx_ap2, bnx_ap3, bnx_ap4, gz_0, gz_1, dvd_96, dvd_2, dvd_10000, rmd_96, rmd_8, xg_at, xg_0, mr_at, up_xg, up_mr, narz_0, narz_1, i10, i01, i11, i00, ↓reduceIte, e10, e01, e50, e51, e20, e60, e70, e30, e40, Classical.not_not, not_true_eq_false, not_false_eq_true, x_range, m_outside, Int32.reduceToInt, x_state, m_raise0, m_raise1, up_mr0, ite_not]
    exact OKx.bad 0 rfl (by decide) rfl (h.thm 0)
  · have hs := s3 (by rw [e]; decide)
    obtain ⟨H', q, ag⟩ := x_copy (σ := σ) (n := 8) (n1 := 9) (G := σ 10) (H := G) (by omega) rfl hs.2
    simp only [e, nm_ap, bnd_ap, bns_ap, bnx_ap0, bnx_ap1, bnx_ap2, bnx_ap3, bnx_ap4, gz_0, gz_1, dvd_96, dvd_2, dvd_10000, rmd_96, rmd_8, xg_at, xg_0, mr_at, up_xg, up_mr, narz_0, narz_1, i10, i01, i11, i00, ↓reduceIte, e10, e01, e50, e51, e20, e60, e70, e30, e40, Classical.not_not, not_true_eq_false, not_false_eq_true, x_range, m_outside, Int32.reduceToInt, x_state, m_raise0, m_raise1, up_mr0, ite_not, q]
    unfold f5_forget
    simp only [nm_ap, bnd_ap, bns_ap, bnx_ap0, bnx_ap1, bnx_ap2, bnx_ap3, bnx_ap4, gz_0, gz_1, dvd_96, dvd_2, dvd_10000, rmd_96, rmd_8, xg_at, xg_0, mr_at, up_xg, up_mr, narz_0, narz_1, i10, i01, i11, i00, ↓reduceIte, e10, e01, e50, e51, e20, e60, e70, e30, e40, Classical.not_not, not_true_eq_false, not_false_eq_true, x_range, m_outside, Int32.reduceToInt, x_state, m_raise0, m_raise1, up_mr0, ite_not, up_xg0]
    rw [m_copy (by decide)]
    have t3 : mr (up τ 0 0 0 0) w 0 3 = τ 0 3 := by rw [mr_ne _ _ (by decide), up_ne _ _ _ (by decide)]
    have gp' : GP H' (cpl 536 (τ 0 3) w) := ⟨(hs.1.ag ag).row (hs.2.ag ag).bd (fun j hj => cpl_lt _ _ hj), hs.2.ag ag⟩
    simp only [nm_ap, bnd_ap, bns_ap, bnx_ap0, bnx_ap1, bnx_ap2, bnx_ap3, bnx_ap4, gz_0, gz_1, dvd_96, dvd_2, dvd_10000, rmd_96, rmd_8, xg_at, xg_0, mr_at, up_xg, up_mr, narz_0, narz_1, i10, i01, i11, i00, ↓reduceIte, e10, e01, e50, e51, e20, e60, e70, e30, e40, Classical.not_not, not_true_eq_false, not_false_eq_true, x_range, m_outside, Int32.reduceToInt, x_state, m_raise0, m_raise1, up_mr0, ite_not, t3, mw2_mr, al_0, al_1, al_2, al_3, al_4, al_5, al_6, al_7, al_8, al_9, al_10, al_11, al_12, al_13, al_14, gp'.1.s4]
    have hr := h.2.1
    refine OKx.good (Rl.new h ⟨fun c hc => up_ne _ _ _ (by omega), funext fun c => up_ne _ _ _ (by omega)⟩ ⟨fun c hc => ?_, fun j h0 h3 => ?_⟩ gp' ?_) ?_
    · rw [up_ne _ _ _ (by omega), up_ne _ _ _ (by omega)]
    · rw [up_self, upd_ne _ _ h3, th_ne _ _ h0]
    · obtain ⟨c, x, k1, k2, k3, k4, k5, k6, k7, k8⟩ := hr
      rw [mr_ne τ w (by decide)] at k6 k7
      rw [xg_0] at k2
      refine ⟨0, x, ?_, ?_, by omega, k4, ?_, ?_, ?_, fun i hi => by omega⟩
      · rw [xg_0, up_self, upd_at]; rfl
      · rw [xg_0, up_self, upd_ne _ _ (by decide)]; exact k2
      · rw [th_mr, up_self, upd_at]; rfl
      · rw [mr_ne _ _ (by decide), up_ne _ _ _ (by decide), up_ne _ _ _ (by decide)]; exact k6
      · rw [mr_ne _ _ (by decide), up_ne _ _ _ (by decide), up_ne _ _ _ (by decide)]; exact k7
    · rw [th_mr, up_self, upd_ne _ _ (by decide), th_at]
-- input
theorem ok_truncateInput {σ τ : Sig} {G : Gd} {w : Rw} (a : Int32) (h : Rl (xg σ 8 G) (mr τ w)) : OKx [1] (f11_truncateInput a (xg σ 8 G)) (f12_truncateInput a (mr τ w)) := by
  have hin := h.2.2.2.1
  obtain ⟨i1, i2, i3, i4⟩ := hin
  rw [xg_0, th_mr] at i1
  rw [th_mr] at i2 i3 i4
  rw [xg_0, mr_ne τ w (by decide)] at i4
  unfold f11_truncateInput f12_truncateInput
  simp only [nm_ap, bnd_ap, bns_ap, bnx_ap0, bnx_ap1, bnx_ap2, bnx_ap3, bnx_ap4, gz_0, gz_1, dvd_96, dvd_2, dvd_10000, rmd_96, rmd_8, xg_at, xg_0, mr_at, up_xg, up_mr, narz_0, narz_1, i10, i01, i11, i00, ↓reduceIte, e10, e01, e50, e51, e20, e60, e70, e30, e40, Classical.not_not, not_true_eq_false, not_false_eq_true, x_range, m_outside, Int32.reduceToInt, x_state, m_raise0, m_raise1, up_mr0, ite_not, th_mr, th_ne τ 0 (show ¬ 8 = 0 by decide), i1]
  by_cases c1 : 0 ≤ a.toInt ∧ a.toInt ≤ (τ 0 0 8).toInt
  · simp only [if_pos c1, nm_ap, bnd_ap, bns_ap, bnx_ap0, bnx_ap1, bnx_ap2, bnx_ap3, bnx_ap4, gz_0, gz_1, dvd_96, dvd_2, dvd_10000, rmd_96, rmd_8, xg_at, xg_0, mr_at, up_xg, up_mr, narz_0, narz_1, i10, i01, i11, i00, ↓reduceIte, e10, e01, e50, e51, e20, e60, e70, e30, e40, Classical.not_not, not_true_eq_false, not_false_eq_true, x_range, m_outside, Int32.reduceToInt, x_state, m_raise0, m_raise1, up_mr0, ite_not, up_xg0, up_self, upd_at, th_mr]
    refine OKx.good ?_ (by rw [th_mr, up_self, upd_ne _ _ (by decide), th_at])
    obtain ⟨h1, h2, h3, h4, h5, h6⟩ := h
    have ex : ∀ c, ¬ c = 4 → xg (up σ 0 4 1 a) 8 G 0 c = xg σ 8 G 0 c := fun c hc => by rw [xg_0, xg_0, up_ne _ _ _ (by omega)]
    have en : ∀ n, xg (up σ 0 4 1 a) 8 G (n + 1) = xg σ 8 G (n + 1) := fun n => funext fun c => by
      by_cases e : n = 8
      · subst e; rw [xg_at, xg_at]
      · rw [xg_ne _ _ _ (by omega), xg_ne _ _ _ (by omega), up_ne _ _ _ (by omega)]
    have tc : ∀ c, ¬ c = 0 → mr (up (up τ 0 0 0 0) 0 0 8 a) w 0 c = mr τ w 0 c := fun c hc => by
      by_cases e : c = 1
      · subst e; rw [mr_at, mr_at]
      · rw [mr_ne _ _ (by omega), mr_ne _ _ (by omega), up_ne _ _ _ (by omega), up_ne _ _ _ (by omega)]
    have tj : ∀ j, ¬ j = 0 → ¬ j = 8 → mr (up (up τ 0 0 0 0) 0 0 8 a) w 0 0 j = mr τ w 0 0 j := fun j h0 h8 => by rw [th_mr, th_mr, up_self, upd_ne _ _ h8, th_ne _ _ h0]
    have t8 : mr (up (up τ 0 0 0 0) 0 0 8 a) w 0 0 8 = a := by rw [th_mr, up_self, upd_at]
    have x4 : xg (up σ 0 4 1 a) 8 G 0 4 1 = a := by rw [xg_0, up_self, upd_at]
    refine ⟨?_, h2.keep (ex 1 (by decide)) (fun n _ => en n) (tj 3 (by decide) (by decide)) (tc 2 (by decide)) (fun c _ _ => tc c (by omega)), ?_, ?_, ?_, ?_⟩
    · rw [show xg (up σ 0 4 1 a) 8 G 9 = xg σ 8 G 9 from en 8, tc 1 (by decide)]; exact h1
    · unfold SNr at h3 ⊢
      rw [ex 0 (by decide), show xg (up σ 0 4 1 a) 8 G 10 = xg σ 8 G 10 from en 9, tj 5 (by decide) (by decide), tc 3 (by decide)]
      exact h3
    · unfold INr
      rw [x4, t8, ex 5 (by decide), tc 5 (by decide), xg_0, mr_ne τ w (by decide)]
      exact ⟨rfl, c1.1, by omega, fun i hi => i4 i (by omega)⟩
    · unfold ERr at h5 ⊢
      rw [ex 3 (by decide), tj 17 (by decide) (by decide), tj 18 (by decide) (by decide)]
      exact h5
    · unfold RPr at h6 ⊢
      rw [ex 6 (by decide), ex 7 (by decide), tj 10 (by decide) (by decide), tc 6 (by decide)]
      exact h6
  · simp only [if_neg c1, nm_ap, bnd_ap, bns_ap, bnx_ap0, bnx_ap1, bnx_ap2, bnx_ap3, bnx_ap4, gz_0, gz_1, dvd_96, dvd_2, dvd_10000, rmd_96, rmd_8, xg_at, xg_0, mr_at, up_xg, up_mr, narz_0, narz_1, i10, i01, i11, i00, ↓reduceIte, e10, e01, e50, e51, e20, e60, e70, e30, e40, Classical.not_not, not_true_eq_false, not_false_eq_true, x_range, m_outside, Int32.reduceToInt, x_state, m_raise0, m_raise1, up_mr0, ite_not]
    exact OKx.bad 0 rfl (by decide) rfl (h.thm 0)
