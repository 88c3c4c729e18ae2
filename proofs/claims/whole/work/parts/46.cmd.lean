/-! THE MATHEMATICS, 27: which command it is -/
theorem cmd_ok {T : Nat → Int32} {L m : Nat} {σ τ X M : Sig} {G : Gd} {w : Rw} (h : SN1 T L σ τ m X M G w) (hX : TX T L σ) (hM : TM T L τ) (hg : GP G w) : ∃ X' M1 M', f9_readCommand X = some X' ∧ f12_command M = some M1 ∧ f12_advance M1 = some M' ∧ NX T L σ τ (m + 1) X' M' := by
  obtain ⟨p, f, hm, hp, hf, rfl, rfl⟩ := h
  have xw : ∀ k, k < 30 → f6_isWord k (xg (XP T L σ p 0 (-1)) 10 G) = some (if isw T L p (strB k) = true then 1 else 0) := fun k hk => x_isWord hX G hp _ _ hk
  have mw : ∀ k, k < 30 → f12_isWord k (mr (MP T L τ p f 0 (-1)) w) = some (if isw T L p (strB k) = true then 1 else 0) := fun k hk => m_isWord hM w hp _ _ hk
  have sc : f12_scan (mr (MP T L τ p f 0 (-1)) w) = some (mr (MP T L τ (tE T L p) (tF T L (tE T L p) f) 0 (-1)) w) := m_scan hM w _ _ _ _ _ (tE_le T hp)
  have hs : SA1 T L σ τ m (xg (XP T L σ p 0 (-1)) 10 G) (mr (MP T L τ (tE T L p) (tF T L (tE T L p) f) 0 (-1)) w) G w := ⟨p, _, hm, hp, tF_ok f, rfl, rfl⟩
  obtain ⟨_, q15, q16, q19, q20, q21, q22, q23, q24, q25, q26⟩ := strE
  unfold f9_readCommand f12_command
  simp only [xw 2 (by decide), xw 3 (by decide), xw 6 (by decide), xw 7 (by decide), xw 8 (by decide), xw 9 (by decide), xw 10 (by decide), xw 11 (by decide), xw 12 (by decide), xw 13 (by decide), mw 15 (by decide), mw 16 (by decide), mw 19 (by decide), mw 20 (by decide), mw 21 (by decide), mw 22 (by decide), q15, q16, q19, q20, q21, q22, bnd_eq, i10, sc]
  by_cases c2 : isw T L p (strB 2) = true
  · have nn : ∀ j, j < 14 → ¬ j = 2 → isw T L p (strB j) = false := fun j hj hn => isw_no c2 (fun e => hn (strD _ hj _ (by decide) e.symm))
    obtain ⟨X1, M1, e1, e2, ce⟩ := cmd_bed hs hX hM hg
    obtain ⟨X', M', e3, e4, nx⟩ := ce.next hX hM
    simp only [c2, nn 3 (by decide) (by decide), nn 6 (by decide) (by decide), nn 7 (by decide) (by decide), nn 8 (by decide) (by decide), nn 9 (by decide) (by decide), nn 10 (by decide) (by decide), nn 11 (by decide) (by decide), nn 12 (by decide) (by decide), nn 13 (by decide) (by decide), not_true_eq_false, not_false_eq_true, Bool.false_eq_true, ↓reduceIte, e1, e2, bnd_eq, e3]
    exact ⟨_, _, _, rfl, rfl, e4, nx⟩
  · skip
    by_cases c3 : isw T L p (strB 3) = true
    · have nn : ∀ j, j < 14 → ¬ j = 3 → isw T L p (strB j) = false := fun j hj hn => isw_no c3 (fun e => hn (strD _ hj _ (by decide) e.symm))
      obtain ⟨X1, M1, e1, e2, ce⟩ := cmd_sell hs hX hM hg
      obtain ⟨X', M', e3, e4, nx⟩ := ce.next hX hM
      simp only [c3, nn 2 (by decide) (by decide), nn 6 (by decide) (by decide), nn 7 (by decide) (by decide), nn 8 (by decide) (by decide), nn 9 (by decide) (by decide), nn 10 (by decide) (by decide), nn 11 (by decide) (by decide), nn 12 (by decide) (by decide), nn 13 (by decide) (by decide), not_true_eq_false, not_false_eq_true, Bool.false_eq_true, ↓reduceIte, e1, e2, bnd_eq, e3]
      exact ⟨_, _, _, rfl, rfl, e4, nx⟩
    · skip
      by_cases c6 : isw T L p (strB 6) = true
      · have nn : ∀ j, j < 14 → ¬ j = 6 → isw T L p (strB j) = false := fun j hj hn => isw_no c6 (fun e => hn (strD _ hj _ (by decide) e.symm))
        obtain ⟨X1, M1, e1, e2, ce⟩ := cmd_visit hs hX hM hg
        obtain ⟨X', M', e3, e4, nx⟩ := ce.next hX hM
        simp only [c6, nn 2 (by decide) (by decide), nn 3 (by decide) (by decide), nn 7 (by decide) (by decide), nn 8 (by decide) (by decide), nn 9 (by decide) (by decide), nn 10 (by decide) (by decide), nn 11 (by decide) (by decide), nn 12 (by decide) (by decide), nn 13 (by decide) (by decide), not_true_eq_false, not_false_eq_true, Bool.false_eq_true, ↓reduceIte, e1, e2, bnd_eq, e3]
        exact ⟨_, _, _, rfl, rfl, e4, nx⟩
      · skip
        by_cases c7 : isw T L p (strB 7) = true
        · have nn : ∀ j, j < 14 → ¬ j = 7 → isw T L p (strB j) = false := fun j hj hn => isw_no c7 (fun e => hn (strD _ hj _ (by decide) e.symm))
          obtain ⟨X1, M1, e1, e2, ce⟩ := cmd_pluck hs hX hM hg
          obtain ⟨X', M', e3, e4, nx⟩ := ce.next hX hM
          simp only [c7, nn 2 (by decide) (by decide), nn 3 (by decide) (by decide), nn 6 (by decide) (by decide), nn 8 (by decide) (by decide), nn 9 (by decide) (by decide), nn 10 (by decide) (by decide), nn 11 (by decide) (by decide), nn 12 (by decide) (by decide), nn 13 (by decide) (by decide), not_true_eq_false, not_false_eq_true, Bool.false_eq_true, ↓reduceIte, e1, e2, bnd_eq, e3]
          exact ⟨_, _, _, rfl, rfl, e4, nx⟩
        · skip
          by_cases c8 : isw T L p (strB 8) = true
          · have nn : ∀ j, j < 14 → ¬ j = 8 → isw T L p (strB j) = false := fun j hj hn => isw_no c8 (fun e => hn (strD _ hj _ (by decide) e.symm))
            obtain ⟨X1, M1, e1, e2, ce⟩ := cmd_pay hs hX hM hg
            obtain ⟨X', M', e3, e4, nx⟩ := ce.next hX hM
            simp only [c8, nn 2 (by decide) (by decide), nn 3 (by decide) (by decide), nn 6 (by decide) (by decide), nn 7 (by decide) (by decide), nn 9 (by decide) (by decide), nn 10 (by decide) (by decide), nn 11 (by decide) (by decide), nn 12 (by decide) (by decide), nn 13 (by decide) (by decide), not_true_eq_false, not_false_eq_true, Bool.false_eq_true, ↓reduceIte, e1, bnd_eq, e3]
            unfold f12_passCommand
            simp only [mw 23 (by decide), mw 24 (by decide), mw 25 (by decide), mw 26 (by decide), q23, q24, q25, q26, bnd_eq, i10, sc]
            simp only [c8, nn 2 (by decide) (by decide), nn 3 (by decide) (by decide), nn 6 (by decide) (by decide), nn 7 (by decide) (by decide), nn 9 (by decide) (by decide), nn 10 (by decide) (by decide), nn 11 (by decide) (by decide), nn 12 (by decide) (by decide), nn 13 (by decide) (by decide), not_true_eq_false, not_false_eq_true, Bool.false_eq_true, ↓reduceIte, e2, bnd_eq]
            exact ⟨_, _, _, rfl, rfl, e4, nx⟩
          · skip
            by_cases c9 : isw T L p (strB 9) = true
            · have nn : ∀ j, j < 14 → ¬ j = 9 → isw T L p (strB j) = false := fun j hj hn => isw_no c9 (fun e => hn (strD _ hj _ (by decide) e.symm))
              obtain ⟨X1, M1, e1, e2, ce⟩ := cmd_lost hs hX hM hg
              obtain ⟨X', M', e3, e4, nx⟩ := ce.next hX hM
              simp only [c9, nn 2 (by decide) (by decide), nn 3 (by decide) (by decide), nn 6 (by decide) (by decide), nn 7 (by decide) (by decide), nn 8 (by decide) (by decide), nn 10 (by decide) (by decide), nn 11 (by decide) (by decide), nn 12 (by decide) (by decide), nn 13 (by decide) (by decide), not_true_eq_false, not_false_eq_true, Bool.false_eq_true, ↓reduceIte, e1, bnd_eq, e3]
              unfold f12_passCommand
              simp only [mw 23 (by decide), mw 24 (by decide), mw 25 (by decide), mw 26 (by decide), q23, q24, q25, q26, bnd_eq, i10, sc]
              simp only [c9, nn 2 (by decide) (by decide), nn 3 (by decide) (by decide), nn 6 (by decide) (by decide), nn 7 (by decide) (by decide), nn 8 (by decide) (by decide), nn 10 (by decide) (by decide), nn 11 (by decide) (by decide), nn 12 (by decide) (by decide), nn 13 (by decide) (by decide), not_true_eq_false, not_false_eq_true, Bool.false_eq_true, ↓reduceIte, e2, bnd_eq]
              exact ⟨_, _, _, rfl, rfl, e4, nx⟩
            · skip
              by_cases c10 : isw T L p (strB 10) = true
              · have nn : ∀ j, j < 14 → ¬ j = 10 → isw T L p (strB j) = false := fun j hj hn => isw_no c10 (fun e => hn (strD _ hj _ (by decide) e.symm))
                obtain ⟨X1, M1, e1, e2, ce⟩ := cmd_replace hs hX hM hg
                obtain ⟨X', M', e3, e4, nx⟩ := ce.next hX hM
                simp only [c10, nn 2 (by decide) (by decide), nn 3 (by decide) (by decide), nn 6 (by decide) (by decide), nn 7 (by decide) (by decide), nn 8 (by decide) (by decide), nn 9 (by decide) (by decide), nn 11 (by decide) (by decide), nn 12 (by decide) (by decide), nn 13 (by decide) (by decide), not_true_eq_false, not_false_eq_true, Bool.false_eq_true, ↓reduceIte, e1, bnd_eq, e3]
                unfold f12_passCommand
                simp only [mw 23 (by decide), mw 24 (by decide), mw 25 (by decide), mw 26 (by decide), q23, q24, q25, q26, bnd_eq, i10, sc]
                simp only [c10, nn 2 (by decide) (by decide), nn 3 (by decide) (by decide), nn 6 (by decide) (by decide), nn 7 (by decide) (by decide), nn 8 (by decide) (by decide), nn 9 (by decide) (by decide), nn 11 (by decide) (by decide), nn 12 (by decide) (by decide), nn 13 (by decide) (by decide), not_true_eq_false, not_false_eq_true, Bool.false_eq_true, ↓reduceIte, e2, bnd_eq]
                exact ⟨_, _, _, rfl, rfl, e4, nx⟩
              · skip
                by_cases c11 : isw T L p (strB 11) = true
                · have nn : ∀ j, j < 14 → ¬ j = 11 → isw T L p (strB j) = false := fun j hj hn => isw_no c11 (fun e => hn (strD _ hj _ (by decide) e.symm))
                  obtain ⟨X1, M1, e1, e2, ce⟩ := cmd_peacocks hs hX hM hg
                  obtain ⟨X', M', e3, e4, nx⟩ := ce.next hX hM
                  simp only [c11, nn 2 (by decide) (by decide), nn 3 (by decide) (by decide), nn 6 (by decide) (by decide), nn 7 (by decide) (by decide), nn 8 (by decide) (by decide), nn 9 (by decide) (by decide), nn 10 (by decide) (by decide), nn 12 (by decide) (by decide), nn 13 (by decide) (by decide), not_true_eq_false, not_false_eq_true, Bool.false_eq_true, ↓reduceIte, e1, e2, bnd_eq, e3]
                  exact ⟨_, _, _, rfl, rfl, e4, nx⟩
                · skip
                  by_cases c12 : isw T L p (strB 12) = true
                  · have nn : ∀ j, j < 14 → ¬ j = 12 → isw T L p (strB j) = false := fun j hj hn => isw_no c12 (fun e => hn (strD _ hj _ (by decide) e.symm))
                    obtain ⟨X1, M1, e1, e2, ce⟩ := cmd_pass hs hX hM hg
                    obtain ⟨X', M', e3, e4, nx⟩ := ce.next hX hM
                    simp only [c12, nn 2 (by decide) (by decide), nn 3 (by decide) (by decide), nn 6 (by decide) (by decide), nn 7 (by decide) (by decide), nn 8 (by decide) (by decide), nn 9 (by decide) (by decide), nn 10 (by decide) (by decide), nn 11 (by decide) (by decide), nn 13 (by decide) (by decide), not_true_eq_false, not_false_eq_true, Bool.false_eq_true, ↓reduceIte, e1, e2, bnd_eq, e3]
                    exact ⟨_, _, _, rfl, rfl, e4, nx⟩
                  · skip
                    by_cases c13 : isw T L p (strB 13) = true
                    · have nn : ∀ j, j < 14 → ¬ j = 13 → isw T L p (strB j) = false := fun j hj hn => isw_no c13 (fun e => hn (strD _ hj _ (by decide) e.symm))
                      obtain ⟨X1, M1, e1, e2, ce⟩ := cmd_refund hs hX hM hg
                      obtain ⟨X', M', e3, e4, nx⟩ := ce.next hX hM
                      simp only [c13, nn 2 (by decide) (by decide), nn 3 (by decide) (by decide), nn 6 (by decide) (by decide), nn 7 (by decide) (by decide), nn 8 (by decide) (by decide), nn 9 (by decide) (by decide), nn 10 (by decide) (by decide), nn 11 (by decide) (by decide), nn 12 (by decide) (by decide), not_true_eq_false, not_false_eq_true, Bool.false_eq_true, ↓reduceIte, e1, bnd_eq, e3]
                      unfold f12_passCommand
                      simp only [mw 23 (by decide), mw 24 (by decide), mw 25 (by decide), mw 26 (by decide), q23, q24, q25, q26, bnd_eq, i10, sc]
                      simp only [c13, nn 2 (by decide) (by decide), nn 3 (by decide) (by decide), nn 6 (by decide) (by decide), nn 7 (by decide) (by decide), nn 8 (by decide) (by decide), nn 9 (by decide) (by decide), nn 10 (by decide) (by decide), nn 11 (by decide) (by decide), nn 12 (by decide) (by decide), not_true_eq_false, not_false_eq_true, Bool.false_eq_true, ↓reduceIte, e2, bnd_eq]
                      exact ⟨_, _, _, rfl, rfl, e4, nx⟩
                    · have ce : CE T L σ τ m (xg (XP T L σ p 1 (Int32.ofNat (tA T L p))) 10 G) (mr (MP T L τ p f 1 (Int32.ofNat (tA T L p))) w) := Or.inr ⟨G, w, p, _, _, _, _, 1, _, hp, by decide, rfl, rfl⟩
                      obtain ⟨X', M', e3, e4, nx⟩ := ce.next hX hM
                      simp only [c2, c3, c6, c7, c8, c9, c10, c11, c12, c13, not_true_eq_false, not_false_eq_true, Bool.false_eq_true, ↓reduceIte, x_fail, ex0, eo0, bnd_eq, e3]
                      unfold f12_passCommand
                      simp only [mw 23 (by decide), mw 24 (by decide), mw 25 (by decide), mw 26 (by decide), q23, q24, q25, q26, bnd_eq, i10, sc]
                      simp only [c2, c3, c6, c7, c8, c9, c10, c11, c12, c13, not_true_eq_false, not_false_eq_true, Bool.false_eq_true, ↓reduceIte, m_fail, ex0, eo0, bnd_eq]
                      exact ⟨_, _, _, rfl, rfl, e4, nx⟩
