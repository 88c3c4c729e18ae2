/-! THE MATHEMATICS, 30: a script -/
theorem exec_ok {T : Nat → Int32} {L : Nat} {σ τ : Sig} (hX : TX T L σ) (hM : TM T L τ) (w : Rw) : ∃ X' M', f9_execute σ = some X' ∧ (nm (up (mr τ w) 0 0 11 0) fun s20 => nm (up s20 0 0 15 0) fun s21 => nm (up s21 0 0 16 (-1)) fun s22 => bnd (f12_scan s22) fun s23 => bnd (f12_isWord 14 s23) fun v24 => if v24 = 0 then bnd (f12_fail 1 s23) fun s25 => f12_runScript_b49 s25 else f12_runScript_b49 s23) = f12_runScript_b93 M' ∧ EN T L σ τ X' M' := by
  have ex0' : up (up σ 0 3 2 0) 0 3 3 (-1) = XB σ (σ 0 4 2) (σ 0 4 3) (σ 0 4 4) 0 (-1) := by
    have h1 := XB_u32 σ (σ 0 4 2) (σ 0 4 3) (σ 0 4 4) (σ 0 3 2) (σ 0 3 3) 0
    have h2 := XB_u33 σ (σ 0 4 2) (σ 0 4 3) (σ 0 4 4) 0 (σ 0 3 3) (-1)
    rw [XB_self] at h1
    rw [h1, h2]
  have em0 : up (up (up τ 0 0 11 0) 0 0 15 0) 0 0 16 (-1) = MB τ (τ 0 0 12) 0 (τ 0 0 13) (τ 0 0 14) 0 (-1) := by
    have h1 := MB_u11 τ (τ 0 0 12) (τ 0 0 11) (τ 0 0 13) (τ 0 0 14) (τ 0 0 15) (τ 0 0 16) 0
    have h2 := MB_u15 τ (τ 0 0 12) 0 (τ 0 0 13) (τ 0 0 14) (τ 0 0 15) (τ 0 0 16) 0
    have h3 := MB_u16 τ (τ 0 0 12) 0 (τ 0 0 13) (τ 0 0 14) 0 (τ 0 0 16) (-1)
    rw [MB_self] at h1
    rw [h1, h2, h3]
  have er : f4_reset 10 σ = some (xg σ 10 (Grs (σ (10 + 1)))) := by
    have h := x_reset σ 10 (σ (10 + 1))
    rw [xg_self] at h
    exact h
  have h0 : (0 : Nat) ≤ L := Nat.zero_le L
  have hE := tE_le T h0
  have x1 : f6_readNext (xg (XB σ (σ 0 4 2) (σ 0 4 3) 0 0 (-1)) 10 (Grs (σ (10 + 1)))) = some (xg (XP T L σ 0 0 (-1)) 10 (Grs (σ (10 + 1)))) := x_read hX _ _ _ _ _ h0
  have m1 : f12_scan (mr (MB τ (τ 0 0 12) 0 (τ 0 0 13) (τ 0 0 14) 0 (-1)) w) = some (mr (MP T L τ 0 (tF T L 0 (τ 0 0 14)) 0 (-1)) w) := m_scan hM w _ _ _ _ _ h0
  unfold f9_execute f6_readFirst f9_readGarden
  rw [er]
  simp only [bnd_eq, nm_eq, up_xg0, up_mr0, ex0', em0, XB_u44, x1, m1]
  rw [x_isWord hX _ h0 _ _ (by decide), m_isWord hM w h0 _ _ (by decide), strE.1]
  simp only [bnd_eq, i10]
  by_cases c : isw T L 0 (strB 1) = true
  · rw [if_neg (not_not_intro c), if_neg (not_not_intro c), x_next hX _ h0]
    simp only [bnd_eq]
    have hs : SN1 T L σ τ 0 (xg (XP T L σ (tE T L 0) 0 (-1)) 10 (Grs (σ (10 + 1)))) (mr (MP T L τ (tE T L 0) (tF T L (tE T L 0) (tF T L 0 (τ 0 0 14))) 0 (-1)) (Wrs w)) (Grs (σ (10 + 1))) (Wrs w) := ⟨tE T L 0, _, Nat.zero_le _, hE, tF_ok _, rfl, rfl⟩
    obtain ⟨X', M1, M', y1, y2, y3, nx⟩ := hdr hX hM FU 0 0 _ _ _ _ hs (gp_rs _ _) (by rw [(grs_at _).1]; rfl) (by unfold FU; omega)
    obtain ⟨X2, M2, z1, z2, en⟩ := cmds_l hX hM FU 0 X' M' nx (by omega) (by unfold FU; omega)
    have y1' : (bnd (f9_readPrice (xg (XP T L σ (tE T L 0) 0 (-1)) 10 (Grs (σ (10 + 1))))) fun s10 => f9_readGarden_b31 FU 1 s10) = some X' := y1
    have z1' : f9_execute_b30 FU 0 X' = some X2 := z1
    unfold f12_runScript_b49 f12_runScript_b64 f12_scents
    rw [y1', m_adv hM w h0]
    simp only [bnd_eq, m_good, ↓reduceIte, e10, m_empty, y2, y3]
    exact ⟨X2, M2, z1', z2, en⟩
  · rw [if_pos c, if_pos c, x_fail, m_fail]
    simp only [bnd_eq, ex0, eo0]
    unfold f12_runScript_b49 f12_runScript_b64
    rw [m_advx _ _ _ _ _ _ _ (by decide)]
    simp only [bnd_eq, m_good]
    rw [if_neg (show ¬ (1 : Int32) = 0 by decide)]
    simp only [bnd_eq, ↓reduceIte]
    rw [m_advx _ _ _ _ _ _ _ (by decide)]
    simp only [bnd_eq]
    exact cmds_l hX hM FU 0 _ _ (Or.inr ⟨Grs (σ (10 + 1)), w, 0, _, _, _, _, 1, _, h0, by decide, rfl, rfl⟩) (by omega) (by unfold FU; omega)
theorem end_x (σ : Sig) (G : Gd) (k a e x o : Int32) : (∀ g c, ¬ (g = 0 ∧ (c = 3 ∨ c = 4)) → ¬ g = 11 → up (xg (XB σ k a e x o) 10 G) 0 4 1 0 g c = σ g c) ∧ up (xg (XB σ k a e x o) 10 G) 0 4 1 0 0 3 2 = x ∧ up (xg (XB σ k a e x o) 10 G) 0 4 1 0 0 3 3 = o ∧ up (xg (XB σ k a e x o) 10 G) 0 4 1 0 0 4 1 = 0 ∧ up (xg (XB σ k a e x o) 10 G) 0 4 1 0 11 = G := by
  refine ⟨fun g c h1 h2 => ?_, ?_, ?_, ?_, ?_⟩
  · rw [up_ne _ _ _ (by omega), xg_ne _ _ _ (by omega), XB_ne _ _ _ _ _ _ h1]
  · rw [up_ne _ _ _ (by decide), xg_0, XB_32]
  · rw [up_ne _ _ _ (by decide), xg_0, XB_33]
  · rw [up_self, upd_at]
  · funext c
    rw [up_ne _ _ _ (by omega), show (11 : Nat) = 10 + 1 from rfl, xg_at]
theorem end_m (τ : Sig) (w : Rw) (a e k f x o : Int32) : (∀ c, ¬ c = 0 → ¬ c = 1 → up (up (up (mr (MB τ a e k f x o) w) 0 0 8 0) 0 0 17 x) 0 0 18 o 0 c = τ 0 c) ∧ up (up (up (mr (MB τ a e k f x o) w) 0 0 8 0) 0 0 17 x) 0 0 18 o 0 1 = w ∧ (∀ j, j = 3 ∨ j = 5 ∨ j = 10 → up (up (up (mr (MB τ a e k f x o) w) 0 0 8 0) 0 0 17 x) 0 0 18 o 0 0 j = τ 0 0 j) ∧ up (up (up (mr (MB τ a e k f x o) w) 0 0 8 0) 0 0 17 x) 0 0 18 o 0 0 8 = 0 ∧ up (up (up (mr (MB τ a e k f x o) w) 0 0 8 0) 0 0 17 x) 0 0 18 o 0 0 15 = x ∧ up (up (up (mr (MB τ a e k f x o) w) 0 0 8 0) 0 0 17 x) 0 0 18 o 0 0 17 = x ∧ up (up (up (mr (MB τ a e k f x o) w) 0 0 8 0) 0 0 17 x) 0 0 18 o 0 0 18 = o := by
  refine ⟨fun c h1 h2 => ?_, ?_, fun j hj => ?_, ?_, ?_, ?_, ?_⟩
  · rw [up_ne _ _ _ (by omega), up_ne _ _ _ (by omega), up_ne _ _ _ (by omega), mr_ne _ _ (by omega), MB_ne _ _ _ _ _ _ _ (by omega)]
  · rw [up_ne _ _ _ (by decide), up_ne _ _ _ (by decide), up_ne _ _ _ (by decide), mr_at]
  · rw [up_self, upd_ne _ _ (by omega), up_self, upd_ne _ _ (by omega), up_self, upd_ne _ _ (by omega), th_mr, MB_00]
    rcases hj with rfl | rfl | rfl <;> rfl
  · rw [up_self, upd_ne _ _ (by decide), up_self, upd_ne _ _ (by decide), up_self, upd_at]
  · rw [up_self, upd_ne _ _ (by decide), up_self, upd_ne _ _ (by decide), up_self, upd_ne _ _ (by decide), th_mr]; rfl
  · rw [up_self, upd_ne _ _ (by decide), up_self, upd_at]
  · rw [up_self, upd_at]
theorem ok_runScript {σ τ : Sig} (h : Rl σ τ) : OKi (f11_runScript σ) (f12_runScript τ) := by
  obtain ⟨r1, r2, r3, r4, r5, r6⟩ := h
  obtain ⟨i1, i2, i3, i4⟩ := r4
  have hw : up τ 0 0 0 0 = mr (up τ 0 0 0 0) (τ 0 1) := by
    have : up τ 0 0 0 0 0 1 = τ 0 1 := up_ne _ _ _ (by decide)
    rw [← this, mr_self]
  have hcp : f12_copy 1 4 (up τ 0 0 0 0) = some (mr (mw2 (up τ 0 0 0 0) 4 (cpl 536 (τ 0 1) (τ 0 4))) (τ 0 1)) := by
    rw [m_copy (by decide), up_ne _ _ _ (by decide), up_ne _ _ _ (by decide)]
    have : mw2 (up τ 0 0 0 0) 4 (cpl 536 (τ 0 1) (τ 0 4)) 0 1 = τ 0 1 := by rw [mw2_ne _ _ _ (by decide), up_ne _ _ _ (by decide)]
    have q := mr_self (mw2 (up τ 0 0 0 0) 4 (cpl 536 (τ 0 1) (τ 0 4)))
    rw [this] at q
    rw [q]
  have t0 : ∀ j, ¬ j = 0 → mw2 (up τ 0 0 0 0) 4 (cpl 536 (τ 0 1) (τ 0 4)) 0 0 j = τ 0 0 j := fun j hj => by rw [mw2_ne _ _ _ (by decide), th_ne _ _ hj]
  have tc : ∀ c, ¬ c = 0 → ¬ c = 4 → mw2 (up τ 0 0 0 0) 4 (cpl 536 (τ 0 1) (τ 0 4)) 0 c = τ 0 c := fun c hc h4 => by rw [mw2_ne _ _ _ (by omega), up_ne _ _ _ (by omega)]
  have t4 : mw2 (up τ 0 0 0 0) 4 (cpl 536 (τ 0 1) (τ 0 4)) 0 4 = cpl 536 (τ 0 1) (τ 0 4) := mw2_at _ _ _
  have eL : τ 0 0 8 = Int32.ofNat (τ 0 0 8).toInt.toNat := ti_ext (by rw [oN _ (by omega)]; omega)
  have hM : TM (τ 0 5) (τ 0 0 8).toInt.toNat (mw2 (up τ 0 0 0 0) 4 (cpl 536 (τ 0 1) (τ 0 4))) := by
    refine ⟨by rw [t0 8 (by decide)]; exact eL, by omega, tc 5 (by decide) (by decide), fun i hi => ?_⟩
    rcases i4 i (by omega) with q | q <;> omega
  have hX : TX (τ 0 5) (τ 0 0 8).toInt.toNat σ := ⟨by rw [i1]; exact eL, by omega, fun i hi => i4 i (by omega)⟩
  generalize mw2 (up τ 0 0 0 0) 4 (cpl 536 (τ 0 1) (τ 0 4)) = τ1 at hcp t0 tc t4 hM
  obtain ⟨X', M', e1, e2, en⟩ := exec_ok hX hM (τ 0 1)
  unfold f11_runScript f12_runScript
  rw [e1]
  simp only [bnd_eq]
  rw [nm_eq (up τ 0 0 0 0), hcp]
  simp only [bnd_eq]
  rw [e2]
  have core : ∃ G w p a e k f x o, X' = xg (XP (τ 0 5) (τ 0 0 8).toInt.toNat σ p x o) 10 G ∧ M' = mr (MB τ1 a e k f x o) w ∧ ((x = 0 ∧ GP G w) ∨ ¬ x = 0) := by
    rcases en with ⟨G, w, p, f, hg, hp, rfl, rfl⟩ | ⟨G, w, p, a, e, k, f, x, o, hp, hx, rfl, rfl⟩
    · exact ⟨G, w, p, _, _, _, f, 0, _, rfl, rfl, Or.inl ⟨rfl, hg⟩⟩
    · exact ⟨G, w, p, a, e, k, f, x, o, rfl, rfl, Or.inr hx⟩
  obtain ⟨G, w, p, a, e, k, f, x, o, rfl, rfl, hgx⟩ := core
  obtain ⟨f1, f2, f3, f4, f5⟩ := end_x σ G (Int32.ofNat (tK (τ 0 5) (τ 0 0 8).toInt.toNat p)) (Int32.ofNat (tA (τ 0 5) (τ 0 0 8).toInt.toNat p)) (Int32.ofNat (tE (τ 0 5) (τ 0 0 8).toInt.toNat p)) x o
  obtain ⟨g1, g2, g3, g4, g5, g6, g7⟩ := end_m τ1 w a e k f x o
  have m15 : up (mr (MB τ1 a e k f x o) w) 0 0 8 0 0 0 15 = x := by rw [up_self, upd_ne _ _ (by decide), th_mr, MB_15]
  have m16 : up (up (mr (MB τ1 a e k f x o) w) 0 0 8 0) 0 0 17 x 0 0 16 = o := by rw [up_self, upd_ne _ _ (by decide), up_self, upd_ne _ _ (by decide), th_mr, MB_16]
  unfold f12_runScript_b93 f12_good
  simp only [nm_eq, m15, m16, f2, g5]
  generalize up (xg (XP (τ 0 5) (τ 0 0 8).toInt.toNat σ p x o) 10 G) 0 4 1 0 = S at f1 f2 f3 f4 f5 ⊢
  generalize up (up (up (mr (MB τ1 a e k f x o) w) 0 0 8 0) 0 0 17 x) 0 0 18 o = R at g1 g2 g3 g4 g5 g6 g7 ⊢
  have s9 : S 9 = σ 9 := funext fun c => f1 9 c (by omega) (by omega)
  have s10 : S 10 = σ 10 := funext fun c => f1 10 c (by omega) (by omega)
  have hist : HR S R := by
    refine r2.keep (f1 0 1 (by decide) (by decide)) (fun n hn => funext fun c => f1 (n + 1) c (by omega) (by omega)) ?_ ?_ (fun c h7 h15 => ?_)
    · rw [g3 3 (by decide), t0 3 (by decide)]
    · rw [g1 2 (by decide) (by decide), tc 2 (by decide) (by decide)]
    · rw [g1 c (by omega) (by omega), tc c (by omega) (by omega)]
  have hold : GP (S 9) (R 0 4) := by
    rw [s9, g1 4 (by decide) (by decide), t4]
    exact r1.cpl
  have hsn : SNr S R := by
    unfold SNr at r3 ⊢
    rw [f1 0 0 (by decide) (by decide), g3 5 (by decide), t0 5 (by decide), s10, g1 3 (by decide) (by decide), tc 3 (by decide) (by decide)]
    exact r3
  have hin : INr S R := ⟨by rw [f4, g4], by rw [g4]; decide, by rw [g4]; decide, fun i hi => by rw [g4] at hi; have : (0 : Int32).toInt = 0 := rfl; omega⟩
  have her : ERr S R := ⟨by rw [f2, g6], by rw [f3, g7]⟩
  have hrp : RPr S R := by
    unfold RPr at r6 ⊢
    rw [f1 0 6 (by decide) (by decide), f1 0 7 (by decide) (by decide), g3 10 (by decide), t0 10 (by decide), g1 6 (by decide) (by decide), tc 6 (by decide) (by decide)]
    exact r6
  rcases hgx with ⟨rfl, hg⟩ | hx
  · obtain ⟨σ', τ', q1, q2, hh, kx, km⟩ := remember_ok (Or.inr rfl) hold hist
    have a11 : σ' (10 + 1) = G := by rw [kx.1 10 (by omega)]; exact f5
    obtain ⟨H', q3, ag⟩ := x_copy (σ := σ') (n := 8) (n1 := 10) (G := G) (H := σ' 9) (by decide) a11 hg.2
    rw [xg_self] at q3
    have w1 : τ' 0 1 = w := by rw [km.1 1 (by decide) (by decide) (by decide), g2]
    have gp' : GP H' w := ⟨hg.1.ag ag, hg.2.ag ag⟩
    simp only [↓reduceIte, q1, q2, q3, bnd_eq, nm_eq, e10, xg_at, w1, al_0, al_1, al_2, al_3, al_4, al_5, al_6, al_7, al_8, al_9, al_10, al_11, al_12, al_13, al_14, gp'.1.s2]
    refine ⟨_, _, _, rfl, rfl, ?_⟩
    have b : ∀ n, ¬ n = 8 → xg σ' 8 H' (n + 1) = σ' (n + 1) := fun n hn => funext fun c => xg_ne σ' H' c (by omega)
    refine ⟨?_, hh.keep (by funext c; rw [xg_0]) (fun n hn => b n (by omega)) rfl rfl (fun c _ _ => rfl), ?_, ?_, ?_, ?_⟩
    · rw [w1, show xg σ' 8 H' 9 = H' from funext fun c => xg_at σ' 8 H' c]; exact gp'
    · unfold SNr at hsn ⊢
      rw [xg_0, show xg σ' 8 H' 10 = σ' 10 from b 9 (by decide), kx.2 0 (by decide), kx.1 9 (by omega), km.1 3 (by decide) (by decide) (by decide), km.2 5 (by decide)]
      exact hsn
    · unfold INr at hin ⊢
      rw [xg_0, xg_0, kx.2 4 (by decide), kx.2 5 (by decide), km.2 8 (by decide), km.1 5 (by decide) (by decide) (by decide)]
      exact hin
    · unfold ERr at her ⊢
      rw [xg_0, kx.2 3 (by decide), km.2 17 (by decide), km.2 18 (by decide)]
      exact her
    · unfold RPr at hrp ⊢
      rw [xg_0, xg_0, kx.2 6 (by decide), kx.2 7 (by decide), km.2 10 (by decide), km.1 6 (by decide) (by decide) (by decide)]
      exact hrp
  · rw [if_neg hx, if_neg hx]
    simp only [bnd_eq, ↓reduceIte]
    rw [m_copy (by decide)]
    simp only [bnd_eq]
    refine ⟨_, _, _, rfl, rfl, ?_⟩
    have b : ∀ c, ¬ c = 1 → mw2 R 1 (cpl 536 (R 0 4) (R 0 1)) 0 c = R 0 c := fun c hc => mw2_ne _ _ _ (by omega)
    refine ⟨?_, hist.keep rfl (fun _ _ => rfl) (by rw [b 0 (by decide)]) (b 2 (by decide)) (fun c _ _ => b c (by omega)), ?_, ?_, ?_, ?_⟩
    · rw [mw2_at]; exact hold.cpl
    · unfold SNr at hsn ⊢
      rw [b 0 (by decide), b 3 (by decide)]; exact hsn
    · unfold INr at hin ⊢
      rw [b 0 (by decide), b 5 (by decide)]; exact hin
    · unfold ERr at her ⊢
      rw [b 0 (by decide)]; exact her
    · unfold RPr at hrp ⊢
      rw [b 0 (by decide), b 6 (by decide)]; exact hrp
