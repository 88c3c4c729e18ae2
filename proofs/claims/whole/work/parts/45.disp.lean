/-! THE MATHEMATICS, 26: a whole command -/
theorem St.xx {T : Nat → Int32} {L m : Nat} {σ τ X M : Sig} {G : Gd} {w : Rw} (h : St T L σ τ m X M G w) : X = xg X 10 G := by
  have e : X (10 + 1) = G := funext fun c => h.gx c
  rw [← e, xg_self]
theorem eq17 : strB 17 = strB 5 := by decide +kernel
theorem eq18 : strB 18 = strB 4 := by decide +kernel
theorem St.kind {T : Nat → Int32} {L m : Nat} {σ τ X M : Sig} {G : Gd} {w : Rw} (h : St T L σ τ m X M G w) (hX : TX T L σ) (hM : TM T L τ) : ∃ v v' X' M', f9_nextKind X = some (v, X') ∧ (∀ x1 x2 x3 : Int32, (bnd (f12_isWord 17 M) fun v18 => if v18 = 0 then f12_sellCommand_b44 x1 x2 x3 0 M else f12_sellCommand_b44 x1 x2 x3 1 M) = (bnd (f12_soldOut M') fun v6 => if v6 = 0 then f12_sellCommand_b88 x1 x2 x3 v' 1 M' else f12_sellCommand_b88 x1 x2 x3 v' 0 M')) ∧ St T L σ τ m X' M' G w ∧ (gd X' → v = v' ∧ (0 ≤ v.toInt ∧ v.toInt ≤ 1) ∧ gd X) := by
  rcases h with ⟨p, f, hm, hp, hf, rfl, rfl⟩ | ⟨p, a, e, k, f, x, o, hp, hx, rfl, rfl⟩
  · have hE := tE_le T hp
    unfold f9_nextKind f9_nextKind_b43 f12_sellCommand_b44 f12_sellCommand_b71
    simp only [nm_eq, xg_0, XB_32, ↓reduceIte]
    rw [x_next hX G hp]
    simp only [bnd_eq]
    rw [x_isWord hX G hE _ _ (by decide), x_isWord hX G hE _ _ (by decide), m_isWord hM w hE _ _ (by decide), m_isWord hM w hE _ _ (by decide), eq17, eq18]
    simp only [bnd_eq, i10]
    by_cases cA : isw T L (tE T L p) (strB 4) = true
    · have hs : SA1 T L σ τ m (xg (XP T L σ (tE T L p) 0 (-1)) 10 G) (mr (MP T L τ (tE T L (tE T L p)) (tF T L (tE T L (tE T L p)) f) 0 (-1)) w) G w := ⟨tE T L p, _, Nat.le_trans hm (tE_ge T L p), hE, tF_ok f, rfl, rfl⟩
      by_cases cC : isw T L (tE T L p) (strB 5) = true
      · simp only [cA, cC, not_true_eq_false, ↓reduceIte, m_adv hM w hE, bnd_eq]
        exact ⟨_, _, _, _, rfl, fun _ _ _ => rfl, Or.inl hs, fun _ => ⟨rfl, by decide, (gd_x _ _ _ _ _ _ _).mpr rfl⟩⟩
      · simp only [cA, cC, not_true_eq_false, not_false_eq_true, Bool.false_eq_true, ↓reduceIte, m_adv hM w hE, bnd_eq]
        exact ⟨_, _, _, _, rfl, fun _ _ _ => rfl, Or.inl hs, fun _ => ⟨rfl, by decide, (gd_x _ _ _ _ _ _ _).mpr rfl⟩⟩
    · by_cases cC : isw T L (tE T L p) (strB 5) = true
      · have hs : SA1 T L σ τ m (xg (XP T L σ (tE T L p) 0 (-1)) 10 G) (mr (MP T L τ (tE T L (tE T L p)) (tF T L (tE T L (tE T L p)) f) 0 (-1)) w) G w := ⟨tE T L p, _, Nat.le_trans hm (tE_ge T L p), hE, tF_ok f, rfl, rfl⟩
        simp only [cA, cC, not_true_eq_false, not_false_eq_true, Bool.false_eq_true, ↓reduceIte, m_adv hM w hE, bnd_eq]
        exact ⟨_, _, _, _, rfl, fun _ _ _ => rfl, Or.inl hs, fun _ => ⟨rfl, by decide, (gd_x _ _ _ _ _ _ _).mpr rfl⟩⟩
      · simp only [cA, cC, not_false_eq_true, Bool.false_eq_true, ↓reduceIte, x_fail, m_fail, bnd_eq, ex0, eo0, m_advx _ _ _ _ _ _ _ e10.mp, i10]
        rw [x_isWord hX G hE _ _ (by decide)]
        simp only [bnd_eq, cC, not_false_eq_true, Bool.false_eq_true, ↓reduceIte]
        exact ⟨_, _, _, _, rfl, fun _ _ _ => rfl, Or.inr ⟨tE T L p, _, _, _, _, 1, _, hE, by decide, rfl, rfl⟩, fun q => absurd ((gd_x _ _ _ _ _ _ _).mp q) (by decide)⟩
  · unfold f9_nextKind f9_nextKind_b43 f12_sellCommand_b44 f12_sellCommand_b71
    simp only [nm_eq, xg_0, XB_32]
    rw [if_neg hx, x_isWord hX G hp _ _ (by decide), m_isWordx _ _ _ _ _ _ _ _ hx, m_isWordx _ _ _ _ _ _ _ _ hx]
    simp only [bnd_eq, ↓reduceIte, m_fail, exn _ hx, eon _ _ hx, m_advx _ _ _ _ _ _ _ hx]
    have hb : St T L σ τ m (xg (XP T L σ p x o) 10 G) (mr (MB τ a e k f x o) w) G w := Or.inr ⟨p, a, e, k, f, x, o, hp, hx, rfl, rfl⟩
    split
    all_goals exact ⟨_, _, _, _, rfl, fun _ _ _ => rfl, hb, fun q => absurd ((gd_x _ _ _ _ _ _ _).mp q) hx⟩
theorem cmd_sell {T : Nat → Int32} {L m : Nat} {σ τ X M : Sig} {G : Gd} {w : Rw} (h : SA1 T L σ τ m X M G w) (hX : TX T L σ) (hM : TM T L τ) (hg : GP G w) : ∃ X' M', f9_readSell X = some X' ∧ f12_sellCommand M = some M' ∧ CE T L σ τ m X' M' := by
  have h0 := hg.2.1
  have ht := Td_in hg.2
  have s0 : St T L σ τ m X M G w := Or.inl h
  obtain ⟨a, a', X1, M1, ex1, em1, s1, g1⟩ := s0.num hX hM 1 (SA G) 1 (SA G) (fun _ => ⟨rfl, rfl⟩)
  obtain ⟨b, b', X2, M2, ex2, em2, s2, g2⟩ := s1.num hX hM (Td G) 99 (Td G) 99 (fun _ => ⟨rfl, rfl⟩)
  obtain ⟨c, c', X3, M3, ex3, em3, s3, g3⟩ := s2.num hX hM 1 14 1 14 (fun _ => ⟨rfl, rfl⟩)
  obtain ⟨d, d', X4, M4, ex4, em4, s4, g4⟩ := s3.kind hX hM
  have y1 : f10_setOfAllScents 10 X = some (SA G) := by rw [s0.xx]; exact x_all
  have y2 : f12_allScents M = some (SA G) := by rw [s0.mm]; exact m_all hg.1
  have y3 : f3_today 10 X1 = some (Td G) := by rw [s1.xx]; exact x_today _ _ _
  have y4 : f12_today M1 = some (Td G) := by rw [s1.mm]; exact m_today hg.1 _
  have y5 : f12_soldOut M4 = some (if (G 4 0).toInt < 30 ∧ (G 5 0).toInt < 50 then 0 else 1) := by rw [s4.mm]; exact m_soldOut hg.1 hg.2
  unfold f9_readSell f12_sellCommand
  simp only [y1, y2, y3, y4, bnd_eq, bns_eq, ex1, em1, ex2, em2, ex3, em3, ex4, em4, y5]
  unfold f12_sellCommand_b88
  have q1 : (1 : Int32).toInt = 1 := rfl
  have q9 : (99 : Int32).toInt = 99 := rfl
  have q14 : (14 : Int32).toInt = 14 := rfl
  by_cases cc : (G 4 0).toInt < 30 ∧ (G 5 0).toInt < 50
  · rw [if_pos cc, if_pos rfl]
    rcases s4.fin hX hM 1 (Or.inr rfl) with ⟨X', M', e1, e2, ce⟩ | ⟨gd4, B, C, e1, rfl, ⟨q, _⟩ | ⟨_, e2, e3⟩⟩
    · simp only [e1, e2, bns_eq, ↓reduceIte]
      exact ⟨_, _, rfl, rfl, ce⟩
    · exact absurd q (by decide)
    · obtain ⟨rfl, rd, gd3⟩ := g4 gd4
      obtain ⟨rfl, rc, gd2⟩ := g3 gd3
      obtain ⟨rfl, rb, gd1⟩ := g2 gd2
      obtain ⟨rfl, ra, _⟩ := g1 gd1
      have rd' : d.toInt = 0 ∨ d.toInt = 1 := by omega
      simp only [e1, e2, bns_eq, bnd_eq, ↓reduceIte, e10, x_canSell, if_pos cc, (e3 G w).1]
      rw [x_sell (by omega) (by omega) (by omega), m_sell hg.1 C (by omega) (by omega) (by omega) rd']
      simp only [bns_eq]
      exact ⟨_, _, rfl, rfl, (e3 _ _).2 ⟨rg_sel hg.1 (by omega) (by omega) (by omega) (by omega) _ _ _ _ _ hg.2.bd, iv_sel hg.2 (by omega) (by omega) (by omega) (by omega) (by omega) (by omega) rd (Pr_in hg.2 (by omega))⟩⟩
  · rw [if_neg cc, if_neg (by decide)]
    rcases s4.fin hX hM 0 (Or.inl rfl) with ⟨X', M', e1, e2, ce⟩ | ⟨gd4, B, C, e1, rfl, ⟨_, M', B', e2, e3⟩ | ⟨q, _⟩⟩
    · simp only [e1, e2, bns_eq, ↓reduceIte]
      exact ⟨_, _, rfl, rfl, ce⟩
    · simp only [e1, e2, bns_eq, bnd_eq, ↓reduceIte, e10, x_canSell, if_neg cc, (e3 G).1]
      exact ⟨_, _, rfl, rfl, (e3 G).2⟩
    · exact absurd q (by decide)
/-- behind a command -/
def NX (T : Nat → Int32) (L : Nat) (σ τ : Sig) (m : Nat) (X M : Sig) : Prop := (∃ G w, GP G w ∧ SN1 T L σ τ m X M G w) ∨ ∃ G w, SB1 T L σ τ X M G w
theorem CE.next {T : Nat → Int32} {L m : Nat} {σ τ X M : Sig} (h : CE T L σ τ m X M) (hX : TX T L σ) (hM : TM T L τ) : ∃ X' M', f9_readCommand_b195 X = some X' ∧ f12_advance M = some M' ∧ NX T L σ τ (m + 1) X' M' := by
  unfold f9_readCommand_b195
  rcases h with ⟨G, w, p, f, hg, hm, hpe, hp, rfl, rfl⟩ | ⟨G, w, p, a, e, k, f, x, o, hp, hx, rfl, rfl⟩
  · simp only [nm_eq, xg_0, XB_32, ↓reduceIte]
    rw [x_next hX G hp, m_adv hM w hp]
    simp only [bnd_eq]
    exact ⟨_, _, rfl, rfl, Or.inl ⟨G, w, hg, tE T L p, _, by omega, tE_le T hp, tF_ok f, rfl, rfl⟩⟩
  · simp only [nm_eq, xg_0, XB_32]
    rw [if_neg hx, m_advx _ _ _ _ _ _ _ hx]
    exact ⟨_, _, rfl, rfl, Or.inr ⟨G, w, p, a, e, k, f, x, o, hp, hx, rfl, rfl⟩⟩
/-- no two words are one -/
theorem wm_eq {T : Nat → Int32} {s : List Int32} {a : Nat} : ∀ n i, wm T s a n i = true → ∀ j, i ≤ j → j < i + n → T (a + j) = s.getD j 0 := by
  intro n
  induction n with
  | zero => intro i _ j h1 h2; omega
  | succ n ih =>
    intro i h j h1 h2
    rw [wm] at h
    split at h
    · rename_i c
      by_cases e : j = i
      · rw [e]; exact c
      · exact ih (i + 1) h j (by omega) (by omega)
    · exact absurd h (by decide)
theorem isw_inj {T : Nat → Int32} {L p : Nat} {s t : List Int32} (h1 : isw T L p s = true) (h2 : isw T L p t = true) : s = t := by
  unfold isw at h1 h2
  simp only [Bool.and_eq_true, decide_eq_true_eq] at h1 h2
  have hl : s.length = t.length := by omega
  apply List.ext_getElem hl
  intro i i1 i2
  have e1 := wm_eq _ _ h1.2 i (by omega) (by omega)
  have e2 := wm_eq _ _ h2.2 i (by omega) (by omega)
  rw [e1] at e2
  simpa [List.getD, i1, i2] using e2
theorem isw_no {T : Nat → Int32} {L p : Nat} {i j : Nat} (h1 : isw T L p (strB i) = true) (hd : ¬ strB i = strB j) : isw T L p (strB j) = false := by
  cases h : isw T L p (strB j) with
  | false => rfl
  | true => exact absurd (isw_inj h1 h) hd
theorem strE : strB 14 = strB 1 ∧ strB 15 = strB 2 ∧ strB 16 = strB 3 ∧ strB 19 = strB 6 ∧ strB 20 = strB 7 ∧ strB 21 = strB 12 ∧ strB 22 = strB 11 ∧ strB 23 = strB 8 ∧ strB 24 = strB 9 ∧ strB 25 = strB 10 ∧ strB 26 = strB 13 := by decide +kernel
theorem strD : ∀ i, i < 14 → ∀ j, j < 14 → strB i = strB j → i = j := by decide +kernel
