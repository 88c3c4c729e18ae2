/-! THE MATHEMATICS, 25: the commands of a script -/
def CE (T : Nat → Int32) (L : Nat) (σ τ : Sig) (m : Nat) (X M : Sig) : Prop := (∃ G w p f, GP G w ∧ m ≤ p ∧ p < tE T L p ∧ p ≤ L ∧ X = xg (XP T L σ p 0 (-1)) 10 G ∧ M = mr (MP T L τ p f 0 (-1)) w) ∨ ∃ G w, SB1 T L σ τ X M G w
theorem x_exec0 (σ : Sig) (G : Gd) (k a e : Int32) : f9_executes 0 (xg (XB σ k a e 0 (-1)) 10 G) = some (0, xg (XB σ k a e 4 a) 10 G) := by
  unfold f9_executes
  rw [if_pos rfl, x_fail]
  rfl
theorem x_exec1 (σ : Sig) : f9_executes 1 σ = some (1, σ) := by
  unfold f9_executes
  rw [if_neg (by decide)]
  rfl
theorem St.fin {T : Nat → Int32} {L m : Nat} {σ τ X M : Sig} {G : Gd} {w : Rw} (h : St T L σ τ m X M G w) (hX : TX T L σ) (hM : TM T L τ) (q : Int32) (hq : q = 0 ∨ q = 1) : (∃ X' M', f9_isComplete X = some (0, X') ∧ f12_ends q M = some (0, M') ∧ CE T L σ τ m X' M') ∨ (gd X ∧ ∃ B C, f9_isComplete X = some (1, xg B 10 G) ∧ M = mr C w ∧ ((q = 0 ∧ ∃ M' B', f12_ends q (mr C w) = some (0, M') ∧ ∀ G', f9_executes 0 (xg B 10 G') = some (0, xg B' 10 G') ∧ CE T L σ τ m (xg B' 10 G') M') ∨ (q = 1 ∧ f12_ends q (mr C w) = some (1, mr C w) ∧ ∀ G' w', f9_executes 1 (xg B 10 G') = some (1, xg B 10 G') ∧ (GP G' w' → CE T L σ τ m (xg B 10 G') (mr C w'))))) := by
  rcases h.ends hX hM with ⟨X', e1, e2⟩ | ⟨g, p, f, hm, hpe, hp, hk, e1, rfl, e3, e4⟩
  · obtain ⟨M', e3, sb⟩ := e2 q
    exact Or.inl ⟨X', M', e1, e3, Or.inr ⟨G, w, sb⟩⟩
  · refine Or.inr ⟨g, XP T L σ p 0 (-1), MP T L τ p f 0 (-1), e1, rfl, ?_⟩
    rcases hq with rfl | rfl
    · exact Or.inl ⟨rfl, _, _, e4, fun G' => ⟨x_exec0 _ _ _ _ _, Or.inr ⟨G', w, p, _, _, _, _, 4, _, hp, by decide, rfl, rfl⟩⟩⟩
    · exact Or.inr ⟨rfl, e3, fun G' w' => ⟨x_exec1 _, fun hg => Or.inl ⟨G', w', p, f, hg, hm, hpe, hp, rfl, rfl⟩⟩⟩
theorem St.good {T : Nat → Int32} {L m : Nat} {σ τ X M : Sig} {G : Gd} {w : Rw} (h : St T L σ τ m X M G w) : (gd X ∧ f12_good M = some 1) ∨ (¬ gd X ∧ f12_good M = some 0) := by
  rcases h with ⟨p, f, hm, hp, hf, rfl, rfl⟩ | ⟨p, a, e, k, f, x, o, hp, hx, rfl, rfl⟩
  · left
    exact ⟨(gd_x _ _ _ _ _ _ _).mpr rfl, by rw [m_good, if_pos rfl]⟩
  · right
    exact ⟨fun q => hx ((gd_x _ _ _ _ _ _ _).mp q), by rw [m_good, if_neg hx]⟩
theorem St.mm {T : Nat → Int32} {L m : Nat} {σ τ X M : Sig} {G : Gd} {w : Rw} (h : St T L σ τ m X M G w) : M = mr M w := by
  rw [← h.wx, mr_self]
theorem e_1 {x : Int32} (h : 0 ≤ x.toInt) : (x - 1).toInt = x.toInt - 1 := tv_sub rfl (show (1 : Int32).toInt = 1 from rfl) (by have := ti_hi x; omega)
theorem cmd_bed {T : Nat → Int32} {L m : Nat} {σ τ X M : Sig} {G : Gd} {w : Rw} (h : SA1 T L σ τ m X M G w) (hX : TX T L σ) (hM : TM T L τ) (hg : GP G w) : ∃ X' M', f9_readBed X = some X' ∧ f12_bedCommand M = some M' ∧ CE T L σ τ m X' M' := by
  have h0 := hg.2.1
  have s0 : St T L σ τ m X M G w := Or.inl h
  obtain ⟨a, a', X1, M1, ex1, em1, s1, g1⟩ := s0.num hX hM 0 (G 2 0 - 1) 0 (G 2 0 - 1) (fun _ => ⟨rfl, rfl⟩)
  obtain ⟨b, b', X2, M2, ex2, em2, s2, g2⟩ := s1.num hX hM 1 20 1 20 (fun _ => ⟨rfl, rfl⟩)
  obtain ⟨c, c', X3, M3, ex3, em3, s3, g3⟩ := s2.num hX hM 0 99 0 99 (fun _ => ⟨rfl, rfl⟩)
  obtain ⟨d, d', X4, M4, ex4, em4, s4, g4⟩ := s3.num hX hM c 99 c' 99 (fun q => ⟨(g3 q).1, rfl⟩)
  unfold f9_readBed f12_bedCommand f12_bedCommand_b56
  simp only [nm_eq, s0.gx, s0.wx, al_0, al_1, al_2, al_3, al_4, al_5, al_6, al_7, al_8, al_9, al_10, al_11, al_12, al_13, al_14, hg.1.s0, ex1, em1, ex2, em2, ex3, em3, ex4, em4, bns_eq, s4.wx, hg.1.s1]
  have e8 : (8 : Int32).toInt = 8 := rfl
  by_cases c8 : (8 : Int32) ≤ G 3 0
  · rw [if_pos c8]
    rw [Int32.le_iff_toInt_le, e8] at c8
    rcases s4.fin hX hM 0 (Or.inl rfl) with ⟨X', M', e1, e2, ce⟩ | ⟨gd4, B, C, e1, rfl, ⟨_, M', B', e2, e3⟩ | ⟨q, _⟩⟩
    · simp only [e1, e2, bns_eq, ↓reduceIte]
      exact ⟨_, _, rfl, rfl, ce⟩
    · simp only [e1, e2, bns_eq, bnd_eq, ↓reduceIte, e10, x_room0, if_neg (show ¬ (G 3 0).toInt < 8 by omega), (e3 G).1]
      exact ⟨_, _, rfl, rfl, (e3 G).2⟩
    · exact absurd q (by decide)
  · rw [if_neg c8]
    rw [Int32.le_iff_toInt_le, e8] at c8
    rcases s4.fin hX hM 1 (Or.inr rfl) with ⟨X', M', e1, e2, ce⟩ | ⟨gd4, B, C, e1, rfl, ⟨q, _⟩ | ⟨_, e2, e3⟩⟩
    · simp only [e1, e2, bns_eq, ↓reduceIte]
      exact ⟨_, _, rfl, rfl, ce⟩
    · exact absurd q (by decide)
    · obtain ⟨rfl, rd, gd3⟩ := g4 gd4
      obtain ⟨rfl, rc, gd2⟩ := g3 gd3
      obtain ⟨rfl, rb, gd1⟩ := g2 gd2
      obtain ⟨rfl, ra, _⟩ := g1 gd1
      simp only [e1, e2, bns_eq, bnd_eq, ↓reduceIte, e10, x_room0, if_pos (show (G 3 0).toInt < 8 by omega), (e3 G w).1]
      rw [x_bed (by omega), m_mkBed (by rw [hg.1.s1]; omega)]
      simp only [bns_eq, hg.1.s1]
      exact ⟨_, _, rfl, rfl, (e3 _ _).2 ⟨rg_bed hg.1 (by omega) (by omega) _ _ _ _ hg.2.bd, iv_bed hg.2 (by omega) (by omega) rb⟩⟩
theorem cmd_peacocks {T : Nat → Int32} {L m : Nat} {σ τ X M : Sig} {G : Gd} {w : Rw} (h : SA1 T L σ τ m X M G w) (hX : TX T L σ) (hM : TM T L τ) (hg : GP G w) : ∃ X' M', f9_readPeacocks X = some X' ∧ (bns (f12_number 0 95 M) fun v20 s21 => bns (f12_number v20 95 s21) fun v22 s23 => bns (f12_ends 1 s23) fun v24 s25 => if v24 = 0 then f12_command_b289 s25 else ast s25 0 1 536 7 v20 fun s26 => ast s26 0 1 536 8 v22 fun s27 => f12_command_b289 s27) = some M' ∧ CE T L σ τ m X' M' := by
  have s0 : St T L σ τ m X M G w := Or.inl h
  obtain ⟨a, a', X1, M1, ex1, em1, s1, g1⟩ := s0.num hX hM 0 95 0 95 (fun _ => ⟨rfl, rfl⟩)
  obtain ⟨b, b', X2, M2, ex2, em2, s2, g2⟩ := s1.num hX hM a 95 a' 95 (fun q => ⟨(g1 q).1, rfl⟩)
  unfold f9_readPeacocks f12_command_b289
  simp only [ex1, em1, ex2, em2, bns_eq]
  rcases s2.fin hX hM 1 (Or.inr rfl) with ⟨X', M', e1, e2, ce⟩ | ⟨gd2, B, C, e1, rfl, ⟨q, _⟩ | ⟨_, e2, e3⟩⟩
  · simp only [e1, e2, bns_eq, ↓reduceIte]
    exact ⟨_, _, rfl, rfl, ce⟩
  · exact absurd q (by decide)
  · obtain ⟨rfl, rb, gd1⟩ := g2 gd2
    obtain ⟨rfl, ra, _⟩ := g1 gd1
    simp only [e1, e2, bns_eq, ↓reduceIte, e10, x_walk, bnd_eq, as_0, as_1, as_2, as_3, as_4, as_5, as_6, as_7, as_8, as_9, as_10, as_11, as_12, as_13, as_14, up_mr]
    exact ⟨_, _, rfl, rfl, (e3 _ _).2 ⟨rg_wlk hg.1 a b hg.2.bd, iv_wlk hg.2 a b⟩⟩
theorem cmd_pass {T : Nat → Int32} {L m : Nat} {σ τ X M : Sig} {G : Gd} {w : Rw} (h : SA1 T L σ τ m X M G w) (hX : TX T L σ) (hM : TM T L τ) (hg : GP G w) : ∃ X' M', f9_readPass X = some X' ∧ (bns (f12_number 1 500 M) fun v29 s30 => ald (s30 0 1) 536 4 fun v31 => nm (v31 + v29) fun v32 => if (9599 : Int32) < v32 then f12_command_b221 v29 0 s30 else f12_command_b221 v29 1 s30) = some M' ∧ CE T L σ τ m X' M' := by
  have h0 := hg.2.1
  have s0 : St T L σ τ m X M G w := Or.inl h
  obtain ⟨a, a', X1, M1, ex1, em1, s1, g1⟩ := s0.num hX hM 1 500 1 500 (fun _ => ⟨rfl, rfl⟩)
  unfold f9_readPass f12_command_b221 f12_command_b232
  simp only [ex1, em1, bns_eq, nm_eq, s1.wx, al_0, al_1, al_2, al_3, al_4, al_5, al_6, al_7, al_8, al_9, al_10, al_11, al_12, al_13, al_14, hg.1.s4]
  have e9 : (9599 : Int32).toInt = 9599 := rfl
  by_cases c : (9599 : Int32) < G 1 0 + a'
  · rw [if_pos c]
    rw [Int32.lt_iff_toInt_lt, e9] at c
    rcases s1.fin hX hM 0 (Or.inl rfl) with ⟨X', M', e1, e2, ce⟩ | ⟨gd1, B, C, e1, rfl, ⟨_, M', B', e2, e3⟩ | ⟨q, _⟩⟩
    · simp only [e1, e2, bns_eq, ↓reduceIte]
      exact ⟨_, _, rfl, rfl, ce⟩
    · obtain ⟨rfl, ra, _⟩ := g1 gd1
      have r5 : (500 : Int32).toInt = 500 := rfl
      have r1 : (1 : Int32).toInt = 1 := rfl
      have e : (G 1 0 + a).toInt = (G 1 0).toInt + a.toInt := tv_add rfl rfl (by omega)
      simp only [e1, e2, bns_eq, bnd_eq, ↓reduceIte, e10, x_canGo hg.2 (show 0 ≤ a.toInt ∧ a.toInt ≤ 9999 by omega), if_neg (show ¬ (G 1 0).toInt + a.toInt ≤ 9599 by omega), (e3 G).1]
      exact ⟨_, _, rfl, rfl, (e3 G).2⟩
    · exact absurd q (by decide)
  · rw [if_neg c]
    rw [Int32.lt_iff_toInt_lt, e9] at c
    rcases s1.fin hX hM 1 (Or.inr rfl) with ⟨X', M', e1, e2, ce⟩ | ⟨gd1, B, C, e1, rfl, ⟨q, _⟩ | ⟨_, e2, e3⟩⟩
    · simp only [e1, e2, bns_eq, ↓reduceIte]
      exact ⟨_, _, rfl, rfl, ce⟩
    · exact absurd q (by decide)
    · obtain ⟨rfl, ra, _⟩ := g1 gd1
      have r5 : (500 : Int32).toInt = 500 := rfl
      have r1 : (1 : Int32).toInt = 1 := rfl
      have e : (G 1 0 + a).toInt = (G 1 0).toInt + a.toInt := tv_add rfl rfl (by omega)
      obtain ⟨w', z1, z2⟩ := m_ticks (τ := C) hg.1 hg.2 (t := a) ⟨by omega, by omega, by omega⟩
      simp only [e1, e2, bns_eq, bnd_eq, ↓reduceIte, e10, x_canGo hg.2 (show 0 ≤ a.toInt ∧ a.toInt ≤ 9999 by omega), if_pos (show (G 1 0).toInt + a.toInt ≤ 9599 by omega), (e3 G w).1, x_ticks hg.2 (show 1 ≤ a.toInt ∧ (G 1 0).toInt + a.toInt ≤ 9599 by omega), z1]
      exact ⟨_, _, rfl, rfl, (e3 _ _).2 ⟨z2, iv_tk hg.2 ⟨by omega, by omega⟩⟩⟩
theorem cmd_lost {T : Nat → Int32} {L m : Nat} {σ τ X M : Sig} {G : Gd} {w : Rw} (h : SA1 T L σ τ m X M G w) (hX : TX T L σ) (hM : TM T L τ) (hg : GP G w) : ∃ X' M', f9_readLost X = some X' ∧ (bns (f12_aPass M) fun v33 s34 => bnd (f12_good s34) fun v35 => if v35 = 0 then f12_passCommand_b109 v33 s34 else bnd (f12_of v33 5 s34) fun v36 => if v36 = (-1) then f12_passCommand_b109 v33 s34 else f12_passCommand_b110 v33 1 s34) = some M' ∧ CE T L σ τ m X' M' := by
  have h0 := hg.2.1
  have s0 : St T L σ τ m X M G w := Or.inl h
  obtain ⟨a, a', X1, M1, ex1, em1, s1, g1⟩ := s0.num hX hM 0 (G 4 0 - 1) 0 (G 4 0 - 1) (fun _ => ⟨rfl, rfl⟩)
  unfold f9_readLost f12_aPass f12_passCommand_b109 f12_passCommand_b110 f12_passCommand_b122
  simp only [nm_eq, s0.gx, s0.wx, al_0, al_1, al_2, al_3, al_4, al_5, al_6, al_7, al_8, al_9, al_10, al_11, al_12, al_13, al_14, hg.1.s2, ex1, em1, bns_eq]
  have r1 := e_1 (x := G 4 0) (by omega)
  have r0 : (0 : Int32).toInt = 0 := rfl
  rcases s1.good with ⟨gd1, hgood⟩ | ⟨ngd, hgood⟩
  · obtain ⟨rfl, ra, _⟩ := g1 gd1
    have am : 0 ≤ a.toInt ∧ a.toInt < 30 := by omega
    have an : ((a.toInt.toNat : Nat) : Int) < (G 4 0).toInt := by omega
    have h1 := hg.2.p an
    have ck : f12_of a 5 M1 = some (G 20 a.toInt.toNat) := by rw [s1.mm, mo_5 am, hg.1.p5 an]
    simp only [hgood, bnd_eq, e10, ↓reduceIte, ck]
    by_cases c : G 20 a.toInt.toNat = -1
    · have ci : (G 20 a.toInt.toNat).toInt = -1 := by rw [c]; rfl
      rw [if_pos c]
      rcases s1.fin hX hM 0 (Or.inl rfl) with ⟨X', M', e1, e2, ce⟩ | ⟨_, B, C, e1, rfl, ⟨_, M', B', e2, e3⟩ | ⟨q, _⟩⟩
      · simp only [e1, e2, bns_eq, ↓reduceIte]
        exact ⟨_, _, rfl, rfl, ce⟩
      · simp only [e1, e2, bns_eq, bnd_eq, ↓reduceIte, e10, x_hasCard am, if_pos ci, (e3 G).1]
        exact ⟨_, _, rfl, rfl, (e3 G).2⟩
      · exact absurd q (by decide)
    · have ci : ¬ (G 20 a.toInt.toNat).toInt = -1 := fun e => c (ti_ext (by rw [e]; rfl))
      rw [if_neg c]
      rcases s1.fin hX hM 1 (Or.inr rfl) with ⟨X', M', e1, e2, ce⟩ | ⟨_, B, C, e1, rfl, ⟨q, _⟩ | ⟨_, e2, e3⟩⟩
      · simp only [e1, e2, bns_eq, ↓reduceIte]
        exact ⟨_, _, rfl, rfl, ce⟩
      · exact absurd q (by decide)
      · simp only [e1, e2, bns_eq, bnd_eq, ↓reduceIte, e10, x_hasCard am, if_neg ci, (e3 G w).1]
        rw [x_block am (by omega) (by omega), m_lose am (by rw [hg.1.p5 an]; omega)]
        simp only [bns_eq]
        exact ⟨_, _, rfl, rfl, (e3 _ _).2 ⟨rg_los hg.1 an (by omega) hg.2.bd, iv_los hg.2 an (by omega)⟩⟩
  · simp only [hgood, bnd_eq, ↓reduceIte]
    rcases s1.fin hX hM 0 (Or.inl rfl) with ⟨X', M', e1, e2, ce⟩ | ⟨gd1, _⟩
    · simp only [e1, e2, bns_eq, ↓reduceIte]
      exact ⟨_, _, rfl, rfl, ce⟩
    · exact absurd gd1 ngd
theorem cmd_replace {T : Nat → Int32} {L m : Nat} {σ τ X M : Sig} {G : Gd} {w : Rw} (h : SA1 T L σ τ m X M G w) (hX : TX T L σ) (hM : TM T L τ) (hg : GP G w) : ∃ X' M', f9_readReplace X = some X' ∧ (bns (f12_aPass M) fun v28 s29 => bnd (f12_good s29) fun v30 => if v30 = 0 then f12_passCommand_b164 v28 s29 else bnd (f12_cannotReplace v28 s29) fun v31 => if v31 = 0 then f12_passCommand_b165 v28 1 s29 else f12_passCommand_b164 v28 s29) = some M' ∧ CE T L σ τ m X' M' := by
  have h0 := hg.2.1
  have s0 : St T L σ τ m X M G w := Or.inl h
  obtain ⟨a, a', X1, M1, ex1, em1, s1, g1⟩ := s0.num hX hM 0 (G 4 0 - 1) 0 (G 4 0 - 1) (fun _ => ⟨rfl, rfl⟩)
  unfold f9_readReplace f12_aPass f12_passCommand_b164 f12_passCommand_b165 f12_passCommand_b177
  simp only [nm_eq, s0.gx, s0.wx, al_0, al_1, al_2, al_3, al_4, al_5, al_6, al_7, al_8, al_9, al_10, al_11, al_12, al_13, al_14, hg.1.s2, ex1, em1, bns_eq]
  have r1 := e_1 (x := G 4 0) (by omega)
  have r0 : (0 : Int32).toInt = 0 := rfl
  rcases s1.good with ⟨gd1, hgood⟩ | ⟨ngd, hgood⟩
  · obtain ⟨rfl, ra, _⟩ := g1 gd1
    have am : 0 ≤ a.toInt ∧ a.toInt < 30 := by omega
    have ap : 0 ≤ a.toInt ∧ a.toInt < (G 4 0).toInt := by omega
    have an : ((a.toInt.toNat : Nat) : Int) < (G 4 0).toInt := by omega
    have ck : f12_cannotReplace a M1 = some (if CrP G a.toInt.toNat then 0 else 1) := by rw [s1.mm, m_cannotReplace hg.1 hg.2 ap]
    simp only [hgood, bnd_eq, e10, ↓reduceIte, ck]
    by_cases c : CrP G a.toInt.toNat
    · rw [if_pos c, if_pos rfl]
      rcases s1.fin hX hM 1 (Or.inr rfl) with ⟨X', M', e1, e2, ce⟩ | ⟨_, B, C, e1, rfl, ⟨q, _⟩ | ⟨_, e2, e3⟩⟩
      · simp only [e1, e2, bns_eq, ↓reduceIte]
        exact ⟨_, _, rfl, rfl, ce⟩
      · exact absurd q (by decide)
      · have c2 := c
        unfold CrP at c2
        simp only [e1, e2, bns_eq, bnd_eq, ↓reduceIte, e10, x_canReplace am, if_pos c, (e3 G w).1]
        rw [x_card am (by omega), m_card am (by rw [hg.1.s3]; omega)]
        simp only [bns_eq, hg.1.s3]
        exact ⟨_, _, rfl, rfl, (e3 _ _).2 ⟨rg_crd hg.1 an (by omega) (by omega) _ hg.2.bd, iv_crd hg.2 an (by omega) (by omega) (by omega)⟩⟩
    · rw [if_neg c, if_neg (by decide)]
      rcases s1.fin hX hM 0 (Or.inl rfl) with ⟨X', M', e1, e2, ce⟩ | ⟨_, B, C, e1, rfl, ⟨_, M', B', e2, e3⟩ | ⟨q, _⟩⟩
      · simp only [e1, e2, bns_eq, ↓reduceIte]
        exact ⟨_, _, rfl, rfl, ce⟩
      · simp only [e1, e2, bns_eq, bnd_eq, ↓reduceIte, e10, x_canReplace am, if_neg c, (e3 G).1]
        exact ⟨_, _, rfl, rfl, (e3 G).2⟩
      · exact absurd q (by decide)
  · simp only [hgood, bnd_eq, ↓reduceIte]
    rcases s1.fin hX hM 0 (Or.inl rfl) with ⟨X', M', e1, e2, ce⟩ | ⟨gd1, _⟩
    · simp only [e1, e2, bns_eq, ↓reduceIte]
      exact ⟨_, _, rfl, rfl, ce⟩
    · exact absurd gd1 ngd
theorem cmd_refund {T : Nat → Int32} {L m : Nat} {σ τ X M : Sig} {G : Gd} {w : Rw} (h : SA1 T L σ τ m X M G w) (hX : TX T L σ) (hM : TM T L τ) (hg : GP G w) : ∃ X' M', f9_readRefund X = some X' ∧ (bns (f12_aPass M) fun v23 s24 => bnd (f12_good s24) fun v25 => if v25 = 0 then f12_passCommand_b221 v23 s24 else bnd (f12_of v23 6 s24) fun v26 => if v26 = 0 then f12_passCommand_b222 v23 1 s24 else f12_passCommand_b221 v23 s24) = some M' ∧ CE T L σ τ m X' M' := by
  have h0 := hg.2.1
  have s0 : St T L σ τ m X M G w := Or.inl h
  obtain ⟨a, a', X1, M1, ex1, em1, s1, g1⟩ := s0.num hX hM 0 (G 4 0 - 1) 0 (G 4 0 - 1) (fun _ => ⟨rfl, rfl⟩)
  unfold f9_readRefund f9_readRefund_b46 f12_aPass f12_passCommand_b221 f12_passCommand_b222 f12_passCommand_b234
  simp only [nm_eq, s0.gx, s0.wx, al_0, al_1, al_2, al_3, al_4, al_5, al_6, al_7, al_8, al_9, al_10, al_11, al_12, al_13, al_14, hg.1.s2, ex1, em1, bns_eq]
  have r1 := e_1 (x := G 4 0) (by omega)
  have r0 : (0 : Int32).toInt = 0 := rfl
  rcases s1.good with ⟨gd1, hgood⟩ | ⟨ngd, hgood⟩
  · obtain ⟨rfl, ra, _⟩ := g1 gd1
    have am : 0 ≤ a.toInt ∧ a.toInt < 30 := by omega
    have a30 : 0 ≤ a.toInt ∧ a.toInt < ((30 : Nat) : Int) := am
    have ap : 0 ≤ a.toInt ∧ a.toInt < (G 4 0).toInt := by omega
    have an : ((a.toInt.toNat : Nat) : Int) < (G 4 0).toInt := by omega
    have ck : f12_of a 6 M1 = some (G 21 a.toInt.toNat) := by rw [s1.mm, mo_6 am, hg.1.p6 an]
    simp only [hgood, bnd_eq, e10, ↓reduceIte, ck]
    by_cases c : G 21 a.toInt.toNat = 0
    · rw [if_pos c]
      rcases s1.fin hX hM 1 (Or.inr rfl) with ⟨X', M', e1, e2, ce⟩ | ⟨_, B, C, e1, rfl, ⟨q, _⟩ | ⟨_, e2, e3⟩⟩
      · simp only [e1, e2, bns_eq, ↓reduceIte]
        exact ⟨_, _, rfl, rfl, ce⟩
      · exact absurd q (by decide)
      · simp only [e1, e2, bns_eq, bnd_eq, ↓reduceIte, e10, xg_at, ald_in a30, if_pos c, (e3 G w).1, x_back hg.2 ap, m_back hg.1 hg.2 C ap]
        exact ⟨_, _, rfl, rfl, (e3 _ _).2 (gp_back hg an)⟩
    · rw [if_neg c]
      rcases s1.fin hX hM 0 (Or.inl rfl) with ⟨X', M', e1, e2, ce⟩ | ⟨_, B, C, e1, rfl, ⟨_, M', B', e2, e3⟩ | ⟨q, _⟩⟩
      · simp only [e1, e2, bns_eq, ↓reduceIte]
        exact ⟨_, _, rfl, rfl, ce⟩
      · simp only [e1, e2, bns_eq, bnd_eq, ↓reduceIte, e10, xg_at, ald_in a30, if_neg c, (e3 G).1]
        exact ⟨_, _, rfl, rfl, (e3 G).2⟩
      · exact absurd q (by decide)
  · simp only [hgood, bnd_eq, ↓reduceIte]
    rcases s1.fin hX hM 0 (Or.inl rfl) with ⟨X', M', e1, e2, ce⟩ | ⟨gd1, _⟩
    · simp only [e1, e2, bns_eq, ↓reduceIte]
      exact ⟨_, _, rfl, rfl, ce⟩
    · exact absurd gd1 ngd
theorem cmd_pay {T : Nat → Int32} {L m : Nat} {σ τ X M : Sig} {G : Gd} {w : Rw} (h : SA1 T L σ τ m X M G w) (hX : TX T L σ) (hM : TM T L τ) (hg : GP G w) : ∃ X' M', f9_readPay X = some X' ∧ (bns (f12_aPass M) fun v38 s39 => bns (f12_number 1 9999 s39) fun v40 s41 => bnd (f12_good s41) fun v42 => if v42 = 0 then f12_passCommand_b51 v38 v40 s41 else bnd (f12_of v38 11 s41) fun v43 => if v43 < v40 then f12_passCommand_b51 v38 v40 s41 else f12_passCommand_b52 v38 v40 1 s41) = some M' ∧ CE T L σ τ m X' M' := by
  have h0 := hg.2.1
  have s0 : St T L σ τ m X M G w := Or.inl h
  obtain ⟨a, a', X1, M1, ex1, em1, s1, g1⟩ := s0.num hX hM 0 (G 4 0 - 1) 0 (G 4 0 - 1) (fun _ => ⟨rfl, rfl⟩)
  obtain ⟨b, b', X2, M2, ex2, em2, s2, g2⟩ := s1.num hX hM 1 9999 1 9999 (fun _ => ⟨rfl, rfl⟩)
  unfold f9_readPay f9_readPay_b56 f12_aPass f12_passCommand_b51 f12_passCommand_b52 f12_passCommand_b65
  simp only [nm_eq, s0.gx, s0.wx, al_0, al_1, al_2, al_3, al_4, al_5, al_6, al_7, al_8, al_9, al_10, al_11, al_12, al_13, al_14, hg.1.s2, ex1, em1, ex2, em2, bns_eq]
  have r1 := e_1 (x := G 4 0) (by omega)
  have r0 : (0 : Int32).toInt = 0 := rfl
  have q1 : (1 : Int32).toInt = 1 := rfl
  rcases s2.good with ⟨gd2, hgood⟩ | ⟨ngd, hgood⟩
  · obtain ⟨rfl, rb, gd1⟩ := g2 gd2
    obtain ⟨rfl, ra, _⟩ := g1 gd1
    have am : 0 ≤ a.toInt ∧ a.toInt < 30 := by omega
    have a30 : 0 ≤ a.toInt ∧ a.toInt < ((30 : Nat) : Int) := am
    have an : ((a.toInt.toNat : Nat) : Int) < (G 4 0).toInt := by omega
    have ck : f12_of a 11 M2 = some (G 26 a.toInt.toNat) := by rw [s2.mm, mo_11 am, hg.1.p11 an]
    simp only [hgood, bnd_eq, e10, ↓reduceIte, ck]
    by_cases c : G 26 a.toInt.toNat < b
    · rw [if_pos c]
      rcases s2.fin hX hM 0 (Or.inl rfl) with ⟨X', M', e1, e2, ce⟩ | ⟨_, B, C, e1, rfl, ⟨_, M', B', e2, e3⟩ | ⟨q, _⟩⟩
      · simp only [e1, e2, bns_eq, ↓reduceIte]
        exact ⟨_, _, rfl, rfl, ce⟩
      · simp only [e1, e2, bns_eq, bnd_eq, ↓reduceIte, e10, xg_at, ald_in a30, if_pos c, (e3 G).1]
        exact ⟨_, _, rfl, rfl, (e3 G).2⟩
      · exact absurd q (by decide)
    · rw [if_neg c]
      rcases s2.fin hX hM 1 (Or.inr rfl) with ⟨X', M', e1, e2, ce⟩ | ⟨_, B, C, e1, rfl, ⟨q, _⟩ | ⟨_, e2, e3⟩⟩
      · simp only [e1, e2, bns_eq, ↓reduceIte]
        exact ⟨_, _, rfl, rfl, ce⟩
      · exact absurd q (by decide)
      · simp only [e1, e2, bns_eq, bnd_eq, ↓reduceIte, e10, xg_at, ald_in a30, if_neg c, (e3 G w).1, x_pay am, m_receive am]
        rw [Int32.lt_iff_toInt_lt] at c
        exact ⟨_, _, rfl, rfl, (e3 _ _).2 ⟨rg_pay hg.1 an b hg.2.bd, iv_pay hg.2 an (by omega)⟩⟩
  · simp only [hgood, bnd_eq, ↓reduceIte]
    rcases s2.fin hX hM 0 (Or.inl rfl) with ⟨X', M', e1, e2, ce⟩ | ⟨gd2, _⟩
    · simp only [e1, e2, bns_eq, ↓reduceIte]
      exact ⟨_, _, rfl, rfl, ce⟩
    · exact absurd gd2 ngd
theorem cmd_pluck {T : Nat → Int32} {L m : Nat} {σ τ X M : Sig} {G : Gd} {w : Rw} (h : SA1 T L σ τ m X M G w) (hX : TX T L σ) (hM : TM T L τ) (hg : GP G w) : ∃ X' M', f9_readPluck X = some X' ∧ (bns (f12_aCard M) fun v34 s35 => bns (f12_number 1 9 s35) fun v36 s37 => bnd (f12_good s37) fun v38 => if v38 = 0 then f12_command_b161 v34 v36 s37 else bnd (f12_cannotPluck v34 v36 s37) fun v39 => if v39 = 0 then f12_command_b162 v34 v36 1 s37 else f12_command_b161 v34 v36 s37) = some M' ∧ CE T L σ τ m X' M' := by
  have h0 := hg.2.1
  have s0 : St T L σ τ m X M G w := Or.inl h
  obtain ⟨a, a', X1, M1, ex1, em1, s1, g1⟩ := s0.num hX hM 0 (G 5 0 - 1) 0 (G 5 0 - 1) (fun _ => ⟨rfl, rfl⟩)
  obtain ⟨b, b', X2, M2, ex2, em2, s2, g2⟩ := s1.num hX hM 1 9 1 9 (fun _ => ⟨rfl, rfl⟩)
  unfold f9_readPluck f12_aCard f12_command_b161 f12_command_b162 f12_command_b175
  simp only [nm_eq, s0.gx, s0.wx, al_0, al_1, al_2, al_3, al_4, al_5, al_6, al_7, al_8, al_9, al_10, al_11, al_12, al_13, al_14, hg.1.s3, ex1, em1, ex2, em2, bns_eq]
  have r1 := e_1 (x := G 5 0) (by omega)
  have r0 : (0 : Int32).toInt = 0 := rfl
  have q1 : (1 : Int32).toInt = 1 := rfl
  have q9 : (9 : Int32).toInt = 9 := rfl
  rcases s2.good with ⟨gd2, hgood⟩ | ⟨ngd, hgood⟩
  · obtain ⟨rfl, rb, gd1⟩ := g2 gd2
    obtain ⟨rfl, ra, _⟩ := g1 gd1
    have ap : 0 ≤ a.toInt ∧ a.toInt < (G 5 0).toInt := by omega
    have an : ((a.toInt.toNat : Nat) : Int) < (G 5 0).toInt := by omega
    have ck : f12_cannotPluck a b M2 = some (if CpP G a.toInt.toNat b then 0 else 1) := by rw [s2.mm, m_cannotPluck hg.1 hg.2 ap]
    simp only [hgood, bnd_eq, e10, ↓reduceIte, ck]
    by_cases c : CpP G a.toInt.toNat b
    · rw [if_pos c, if_pos rfl]
      rcases s2.fin hX hM 1 (Or.inr rfl) with ⟨X', M', e1, e2, ce⟩ | ⟨_, B, C, e1, rfl, ⟨q, _⟩ | ⟨_, e2, e3⟩⟩
      · simp only [e1, e2, bns_eq, ↓reduceIte]
        exact ⟨_, _, rfl, rfl, ce⟩
      · exact absurd q (by decide)
      · simp only [e1, e2, bns_eq, bnd_eq, ↓reduceIte, e10, x_canPluck hg.2 ap, if_pos c, (e3 G w).1, x_pluck hg.2 ap c, m_take hg.1 hg.2 C ap c]
        exact ⟨_, _, rfl, rfl, (e3 _ _).2 (gp_plk hg an (by omega) c)⟩
    · rw [if_neg c, if_neg (by decide)]
      rcases s2.fin hX hM 0 (Or.inl rfl) with ⟨X', M', e1, e2, ce⟩ | ⟨_, B, C, e1, rfl, ⟨_, M', B', e2, e3⟩ | ⟨q, _⟩⟩
      · simp only [e1, e2, bns_eq, ↓reduceIte]
        exact ⟨_, _, rfl, rfl, ce⟩
      · simp only [e1, e2, bns_eq, bnd_eq, ↓reduceIte, e10, x_canPluck hg.2 ap, if_neg c, (e3 G).1]
        exact ⟨_, _, rfl, rfl, (e3 G).2⟩
      · exact absurd q (by decide)
  · simp only [hgood, bnd_eq, ↓reduceIte]
    rcases s2.fin hX hM 0 (Or.inl rfl) with ⟨X', M', e1, e2, ce⟩ | ⟨gd2, _⟩
    · simp only [e1, e2, bns_eq, ↓reduceIte]
      exact ⟨_, _, rfl, rfl, ce⟩
    · exact absurd gd2 ngd
theorem cmd_visit {T : Nat → Int32} {L m : Nat} {σ τ X M : Sig} {G : Gd} {w : Rw} (h : SA1 T L σ τ m X M G w) (hX : TX T L σ) (hM : TM T L τ) (hg : GP G w) : ∃ X' M', f9_readVisit X = some X' ∧ (bns (f12_aCard M) fun v41 s42 => ald (s42 0 1) 536 1 fun v43 => nm (v43 - 1) fun v44 => bns (f12_number 0 v44 s42) fun v45 s46 => bnd (f12_good s46) fun v47 => if v47 = 0 then f12_command_b96 v41 v45 s46 else bnd (f12_refusal v41 v45 s46) fun v48 => if v48 = 0 then f12_command_b97 v41 v45 1 s46 else f12_command_b96 v41 v45 s46) = some M' ∧ CE T L σ τ m X' M' := by
  have h0 := hg.2.1
  have s0 : St T L σ τ m X M G w := Or.inl h
  obtain ⟨a, a', X1, M1, ex1, em1, s1, g1⟩ := s0.num hX hM 0 (G 5 0 - 1) 0 (G 5 0 - 1) (fun _ => ⟨rfl, rfl⟩)
  obtain ⟨b, b', X2, M2, ex2, em2, s2, g2⟩ := s1.num hX hM 0 (G 3 0 - 1) 0 (G 3 0 - 1) (fun _ => ⟨rfl, rfl⟩)
  unfold f9_readVisit f9_readVisit_b61 f12_aCard f12_command_b96 f12_command_b97 f12_command_b110
  simp only [nm_eq, s0.gx, s0.wx, al_0, al_1, al_2, al_3, al_4, al_5, al_6, al_7, al_8, al_9, al_10, al_11, al_12, al_13, al_14, hg.1.s3, ex1, em1, bns_eq, s1.gx, s1.wx, hg.1.s1, ex2, em2]
  have r1 := e_1 (x := G 5 0) (by omega)
  have r2 := e_1 (x := G 3 0) (by omega)
  have r0 : (0 : Int32).toInt = 0 := rfl
  rcases s2.good with ⟨gd2, hgood⟩ | ⟨ngd, hgood⟩
  · obtain ⟨rfl, rb, gd1⟩ := g2 gd2
    obtain ⟨rfl, ra, _⟩ := g1 gd1
    have ap : 0 ≤ a.toInt ∧ a.toInt < (G 5 0).toInt := by omega
    have bp : 0 ≤ b.toInt ∧ b.toInt < (G 3 0).toInt := by omega
    have ck : f12_refusal a b M2 = some (Rf G a.toInt.toNat b.toInt.toNat) := by rw [s2.mm, m_refusal hg.1 hg.2 _ ap bp]
    simp only [hgood, bnd_eq, e10, ↓reduceIte, ck]
    by_cases c : Rf G a.toInt.toNat b.toInt.toNat = 0
    · rw [if_pos c]
      rcases s2.fin hX hM 1 (Or.inr rfl) with ⟨X', M', e1, e2, ce⟩ | ⟨_, B, C, e1, rfl, ⟨q, _⟩ | ⟨_, e2, e3⟩⟩
      · simp only [e1, e2, bns_eq, ↓reduceIte]
        exact ⟨_, _, rfl, rfl, ce⟩
      · exact absurd q (by decide)
      · simp only [e1, e2, bns_eq, bnd_eq, ↓reduceIte, e10, x_show hg.2 ap bp, if_pos c, m_show hg.1 hg.2 C ap bp]
        rw [(e3 _ w).1]
        simp only [bns_eq]
        exact ⟨_, _, rfl, rfl, (e3 _ _).2 (by have := gp_show hg (k := a.toInt.toNat) (b := b.toInt.toNat) (bi := b) (by omega) (by omega) (by omega); first | exact this | (rw [if_pos c] at this; exact this) | simpa only [if_pos c] using this)⟩
    · rw [if_neg c]
      rcases s2.fin hX hM 0 (Or.inl rfl) with ⟨X', M', e1, e2, ce⟩ | ⟨_, B, C, e1, rfl, ⟨_, M', B', e2, e3⟩ | ⟨q, _⟩⟩
      · simp only [e1, e2, bns_eq, ↓reduceIte]
        exact ⟨_, _, rfl, rfl, ce⟩
      · simp only [e1, e2, bns_eq, bnd_eq, ↓reduceIte, e10, x_show hg.2 ap bp, if_neg c]
        rw [(e3 _).1]
        simp only [bns_eq]
        exact ⟨_, _, rfl, rfl, (e3 _).2⟩
      · exact absurd q (by decide)
  · simp only [hgood, bnd_eq, ↓reduceIte]
    rcases s2.fin hX hM 0 (Or.inl rfl) with ⟨X', M', e1, e2, ce⟩ | ⟨gd2, _⟩
    · simp only [e1, e2, bns_eq, ↓reduceIte]
      exact ⟨_, _, rfl, rfl, ce⟩
    · exact absurd gd2 ngd
