/-! THE MATHEMATICS, 29: the script's statements in a row -/
theorem x_b31x {T : Nat → Int32} {L : Nat} {σ : Sig} (fu : Nat) (x1 : Int32) (G : Gd) (p : Nat) {x : Int32} (o : Int32) (hx : ¬ x = 0) : f9_readGarden_b31 (fu + 1) x1 (xg (XP T L σ p x o) 10 G) = some (xg (XP T L σ p x o) 10 G) := by
  have h64 : f9_readGarden_b64 (xg (XP T L σ p x o) 10 G) = some (xg (XP T L σ p x o) 10 G) := by
    unfold f9_readGarden_b64
    rw [x_semi, if_neg hx, exn _ hx, eon _ _ hx]
    split <;> rfl
  rw [f9_readGarden_b31]
  simp only [nm_eq, xg_0, XB_32, h64]
  rw [if_neg hx]
  split <;> rfl
theorem m_b34x (τ : Sig) (w : Rw) (rc : Sig → Option Sig) (v a e k f : Int32) {x : Int32} (o : Int32) (hx : ¬ x = 0) : f12_scents_b34 rc v (mr (MB τ a e k f x o) w) = some (mr (MB τ a e k f x o) w) := by
  unfold f12_scents_b34 f12_scents_b46 f12_scents_b65
  simp only [m_good, if_neg hx, bnd_eq, ↓reduceIte, m_advx _ _ _ _ _ _ _ hx, m_ends, exn _ hx, eon _ _ hx, e10]
  split <;> rfl
theorem hdr {T : Nat → Int32} {L : Nat} {σ τ : Sig} (hX : TX T L σ) (hM : TM T L τ) : ∀ (fu k m : Nat) (X M : Sig) (G : Gd) (w : Rw), SN1 T L σ τ m X M G w → GP G w → (G 2 0).toInt = k → 5 < fu + k → ∃ X' M1 M', (bnd (f9_readPrice X) fun s => f9_readGarden_b31 fu (Int32.ofNat (k + 1)) s) = some X' ∧ f12_scents_b4 fu M = some M1 ∧ f12_advance M1 = some M' ∧ NX T L σ τ m X' M' := by
  intro fu
  induction fu with
  | zero => intro k m X M G w h hg hk hf; have := hg.2.1; omega
  | succ fu ih =>
    intro k m X M G w h hg hk hf
    have h0 := hg.2.1
    obtain ⟨p, f, hm, hp, hfv, rfl, rfl⟩ := h
    have hE := tE_le T hp
    have r1 : (1 : Int32).toInt = 1 := rfl
    have r9 : (99 : Int32).toInt = 99 := rfl
    have r5 : (5 : Int32).toInt = 5 := rfl
    have bad : ∀ (x o : Int32), ¬ x = 0 → ∃ X' M1 M', f9_readGarden_b31 (fu + 1) (Int32.ofNat (k + 1)) (xg (XP T L σ p x o) 10 G) = some X' ∧ f12_scents_b34 (f12_scents_b4 fu) 0 (mr (MP T L τ p f x o) w) = some M1 ∧ f12_advance M1 = some M' ∧ NX T L σ τ m X' M' := by
      intro x o hx
      exact ⟨_, _, _, x_b31x fu _ G p o hx, m_b34x τ w _ 0 _ _ _ f o hx, m_advx τ w _ _ _ _ o hx, Or.inr ⟨G, w, p, _, _, _, _, x, o, hp, hx, rfl, rfl⟩⟩
    unfold f9_readPrice f9_readPrice_b26
    rw [x_num hX G hp, f12_scents_b4, m_num τ w p 1 99 f (-1) hfv]
    by_cases c1 : tK T L p = 1
    · rw [if_pos c1, if_pos c1]
      by_cases c2 : (1 : Int32).toInt ≤ (tV T L p).toInt ∧ (tV T L p).toInt ≤ (99 : Int32).toInt
      · rw [if_pos c2, if_pos c2]
        simp only [bns_eq, bnd_eq, m_good, nm_eq, x_room10, xg_0, XB_32, ↓reduceIte, e10, mr_at, al_0, hg.1.s0]
        by_cases c3 : (G 2 0).toInt < 5
        · have n5 : ¬ G 2 0 = 5 := fun e => by rw [e] at c3; exact absurd c3 (by decide)
          have gp' : GP (Gsc G (G 2 0).toInt.toNat (tV T L p)) (Wsc w (G 2 0).toInt.toNat (tV T L p)) := ⟨rg_sc hg.1 (by omega) (by omega) _ hg.2.bd, iv_sc hg.2 (by omega) (by omega) (by omega)⟩
          have k' : (Gsc G (G 2 0).toInt.toNat (tV T L p) 2 0).toInt = ((k + 1 : Nat) : Int) := by
            rw [show Gsc G (G 2 0).toInt.toNat (tV T L p) 2 0 = G 2 0 + 1 from rfl, tv_add hk r1 (by omega)]
            omega
          have em : f12_addScentAt (tV T L p) (mr (MP T L τ p f 0 (-1)) w) = some (mr (MP T L τ p f 0 (-1)) (Wsc w (G 2 0).toInt.toNat (tV T L p))) := by
            rw [m_scent (by rw [hg.1.s0]; omega), hg.1.s0]
          rw [if_pos c3, if_neg n5, if_neg (by decide), x_scent (by omega)]
          unfold f12_scents_b34
          simp only [bnd_eq, m_good, ↓reduceIte, e10, em]
          unfold f12_scents_b46
          rw [x_next hX _ hp, m_adv hM _ hp]
          simp only [bnd_eq, m_good, ↓reduceIte, e10, nm_eq, th_mr, MB_13, km2]
          generalize Gsc G (G 2 0).toInt.toNat (tV T L p) = G' at gp' k' ⊢
          generalize Wsc w (G 2 0).toInt.toNat (tV T L p) = w' at gp' ⊢
          have hsn : SN1 T L σ τ m (xg (XP T L σ (tE T L p) 0 (-1)) 10 G') (mr (MP T L τ (tE T L p) (tF T L (tE T L p) f) 0 (-1)) w') G' w' := ⟨tE T L p, _, Nat.le_trans hm (tE_ge T L p), hE, tF_ok f, rfl, rfl⟩
          rw [f9_readGarden_b31]
          simp only [nm_eq, xg_0, XB_32, XB_42, kd1, ↓reduceIte, oN1]
          rw [if_neg (by rw [Int32.lt_iff_toInt_lt, oN _ (by omega), r5]; omega)]
          by_cases c4 : tK T L (tE T L p) = 1
          · rw [if_pos c4, if_pos c4]
            exact ih (k + 1) m _ _ G' w' hsn gp' k' (by omega)
          · rw [if_neg c4, if_neg c4]
            unfold f9_readGarden_b64 f12_scents_b65
            rw [x_semi, m_ends]
            simp only [km1, ↓reduceIte, ex0, eo0, e10]
            by_cases c5 : tK T L (tE T L p) = 2
            · rw [if_pos c5, if_pos c5]
              simp only [bns_eq, e10, ↓reduceIte]
              rw [x_next hX _ hE]
              simp only [bnd_eq]
              refine ⟨_, _, _, rfl, rfl, m_adv hM _ hE _ _, Or.inl ⟨G', w', gp', tE T L (tE T L p), _, ?_, tE_le T hE, tF_ok _, rfl, rfl⟩⟩
              exact Nat.le_trans hm (Nat.le_trans (tE_ge T L p) (tE_ge T L _))
            · rw [if_neg c5, if_neg c5]
              simp only [bns_eq, ↓reduceIte]
              exact ⟨_, _, _, rfl, rfl, m_advx _ _ _ _ _ _ _ (by decide), Or.inr ⟨G', w', tE T L p, _, _, _, _, 1, _, hE, by decide, rfl, rfl⟩⟩
        · have p5 : G 2 0 = 5 := ti_ext (by omega)
          rw [if_neg c3, if_pos p5, if_pos rfl, x_fail, m_fail]
          simp only [bnd_eq, ex0, eo0, xg_0, XB_32]
          rw [if_neg (by decide)]
          obtain ⟨X', M1, M', y1, y2, y3, y4⟩ := bad 3 (Int32.ofNat (tA T L p)) (by decide)
          refine ⟨X', M1, M', y1, ?_, y3, y4⟩
          rw [m_b34x _ _ _ _ _ _ _ _ _ (by decide)] at y2 ⊢
          exact y2
      · rw [if_neg c2, if_neg c2]
        simp only [bns_eq, bnd_eq, m_good, nm_eq, x_room10, ex0, eo0, e20, ↓reduceIte]
        obtain ⟨X', M1, M', y1, y2, y3, y4⟩ := bad 2 (Int32.ofNat (tA T L p)) (by decide)
        refine ⟨X', M1, M', ?_, y2, y3, y4⟩
        rw [x_fail, exn _ (by decide), eon _ _ (by decide)]
        simp only [bnd_eq, xg_0, XB_32]
        rw [if_neg (show ¬ (2 : Int32) = 0 by decide)]
        split <;> exact y1
    · rw [if_neg c1, if_neg c1]
      simp only [bns_eq, bnd_eq, m_good, nm_eq, x_room10, ex0, eo0, e10, ↓reduceIte]
      obtain ⟨X', M1, M', y1, y2, y3, y4⟩ := bad 1 (Int32.ofNat (tA T L p)) (by decide)
      refine ⟨X', M1, M', ?_, y2, y3, y4⟩
      rw [x_fail, exn _ (by decide), eon _ _ (by decide)]
      simp only [bnd_eq, xg_0, XB_32]
      rw [if_neg (show ¬ (1 : Int32) = 0 by decide)]
      split <;> exact y1
/-- the end -/
def EN (T : Nat → Int32) (L : Nat) (σ τ : Sig) (X M : Sig) : Prop := (∃ G w p f, GP G w ∧ p ≤ L ∧ X = xg (XP T L σ p 0 (-1)) 10 G ∧ M = mr (MP T L τ p f 0 (-1)) w) ∨ ∃ G w, SB1 T L σ τ X M G w
theorem cmds_l {T : Nat → Int32} {L : Nat} {σ τ : Sig} (hX : TX T L σ) (hM : TM T L τ) : ∀ (fu c : Nat) (X M : Sig), NX T L σ τ c X M → c ≤ 500 → 500 < fu + c → ∃ X' M', f9_execute_b30 fu (Int32.ofNat c) X = some X' ∧ f12_runScript_b68 fu M = f12_runScript_b93 M' ∧ EN T L σ τ X' M' := by
  have hL := hX.2.1
  intro fu
  induction fu with
  | zero => intro c X M h h1 h2; omega
  | succ fu ih =>
    intro c X M h h1 h2
    have ec := oN c (by omega)
    have e5 : (500 : Int32).toInt = 500 := rfl
    rw [f9_execute_b30, f12_runScript_b68]
    unfold f9_goesOn
    rcases h with ⟨G, w, hg, hs⟩ | ⟨G, w, p, a, e, k, f, x, o, hp, hx, rfl, rfl⟩
    · have hss := hs
      obtain ⟨p, f, hm, hp, hf, rfl, rfl⟩ := hs
      simp only [nm_eq, xg_0, XB_32, XB_42, m_good, bnd_eq, th_mr, MB_13, km0, kd3, ↓reduceIte, e10]
      by_cases c1 : tK T L p = 3
      · rw [if_pos c1, if_pos c1]
        refine ⟨_, _, ?_, rfl, Or.inl ⟨G, w, p, f, hg, hp, rfl, rfl⟩⟩
        simp only [bnd_eq, ↓reduceIte]
        split <;> rfl
      · have hlt := (tKa_gt T L (tA T L p) c1).2
        have hA := tA_ge T L p
        rw [if_neg c1, if_neg c1, if_neg (by rw [Int32.le_iff_toInt_le, ec, e5]; omega)]
        simp only [bnd_eq, e10, ↓reduceIte]
        obtain ⟨X', M1, M', z1, z2, z3, nx⟩ := cmd_ok hss hX hM hg
        rw [z1, z2]
        simp only [bnd_eq, z3, oN1]
        exact ih (c + 1) X' M' nx (by omega) (by omega)
    · simp only [nm_eq, xg_0, XB_32, m_good, bnd_eq, if_neg hx, ↓reduceIte]
      refine ⟨_, _, ?_, rfl, Or.inr ⟨G, w, p, a, e, k, f, x, o, hp, hx, rfl, rfl⟩⟩
      split <;> rfl
