/-! THE MATHEMATICS, 35: both new objects are in step -/
def FN : Nat → Int32 := fun i => vp_nar .byte (FT i).toInt8.toInt32
theorem fn_bt {i : Nat} (h : i < FL) : bt (FN i) (FT i) := by
  have h1 := ft_low i h
  have h2 := bt_low (FT i)
  have h3 := and255 (FT i)
  rw [show FT i &&& 255 = FT i from ti_ext (by omega)] at h2
  exact h2
theorem fill_l {s : Sig} (hs : s 0 4 1 = Int32.ofNat FL) : ∀ (fu k : Nat), k ≤ FL → FL < fu + k → f6_fill_b16 0 fu (Int32.ofNat k) (ur s 0 5 (cpl k FN (s 0 5))) = some (ur s 0 5 (cpl FL FN (s 0 5))) := by
  have hl : FL = 189 := rfl
  intro fu
  induction fu with
  | zero => intro k h1 h2; omega
  | succ fu ih =>
    intro k h1 h2
    have ek := oN k (by omega)
    have eL := oN FL (by omega)
    rw [f6_fill_b16]
    simp only [nm_eq, ur_ne _ _ (show ¬ (0 = 0 ∧ 4 = 5) by decide), hs]
    by_cases hk : k = FL
    · rw [if_pos (by rw [Int32.le_iff_toInt_le, ek, eL]; omega), hk]
    · rw [if_neg (by rw [Int32.le_iff_toInt_le, ek, eL]; omega), ald_in (by rw [ek, ft_len]; omega), ast_in (by rw [ek]; omega), ek]
      simp only [Int.toNat_natCast, up_urc, oN1]
      rw [show vp_nar .byte (strA 0 k).toInt8.toInt32 = FN k from rfl, cpl_s]
      exact ih (k + 1) (by omega) (by omega)
theorem fill_ok (σ : Sig) : ∃ σ1, f6_fill 0 σ = some σ1 ∧ TX FT FL σ1 ∧ ∀ g c, ¬ (g = 0 ∧ (c = 4 ∨ c = 5)) → σ1 g c = σ g c := by
  have hl : FL = 189 := rfl
  have h5 : (500 : Int32).toInt = 500 := rfl
  have hs : up σ 0 4 1 (Int32.ofNat FL) 0 4 1 = Int32.ofNat FL := by rw [up_self, upd_at]
  have h := fill_l hs FU 0 (by omega) (by unfold FU; omega)
  rw [cpl_0, ur_selfc] at h
  refine ⟨ur (up σ 0 4 1 (Int32.ofNat FL)) 0 5 (cpl FL FN (up σ 0 4 1 (Int32.ofNat FL) 0 5)), ?_, ⟨?_, by omega, fun i hi => ?_⟩, fun g c hgc => ?_⟩
  · unfold f6_fill
    simp only [nm_eq]
    rw [ft_len, if_pos (by rw [Int32.lt_iff_toInt_lt, oN _ (by omega), h5]; omega)]
    exact h
  · rw [ur_ne _ _ (by decide)]; exact hs
  · rw [ur_self, cpl_lt _ _ hi]; exact fn_bt hi
  · rw [ur_ne _ _ (by omega), up_ne _ _ _ (by omega)]
theorem start_ok : ∃ σ0 τ0, fX = some σ0 ∧ fM = some τ0 ∧ Rl σ0 τ0 := by
  obtain ⟨σ1, e1, hX, hσ⟩ := fill_ok σi
  obtain ⟨w17, em, hg, his⟩ := found_m τi (Wrs (τi 0 1)) (gp_rs Z0 (τi 0 1))
  have hz : σ1 (10 + 1) = Z0 := funext fun c => by
    rw [hσ _ _ (by omega)]
    funext j
    exact if_neg (by omega)
  have e2 := found_x hX hz his
  obtain ⟨f1, f2, f3, f4, f5⟩ := end_x σ1 g17_ (Int32.ofNat (tK FT FL 189)) (Int32.ofNat (tA FT FL 189)) (Int32.ofNat (tE FT FL 189)) 0 (-1)
  have e3 : fX = f4_copyFrom 8 10 (up (XS FT FL σ1 189 g17_) 0 4 1 0) := by
    unfold fX
    rw [e1]
    simp only [bnd_eq]
    rw [e2]
    simp only [bnd_eq, nm_eq]
  have e4 : fM = some (mr τi w17) := by
    unfold fM
    have q : f12_empty τi = some (mr τi (Wrs (τi 0 1))) := by
      have q := m_empty τi (τi 0 1)
      rw [mr_self] at q
      exact q
    rw [q]
    simp only [bnd_eq]
    exact em
  rw [e3, e4]
  generalize up (XS FT FL σ1 189 g17_) 0 4 1 0 = S at f1 f2 f3 f4 f5 ⊢
  have his17 : Iv g17_ := hg.2
  obtain ⟨H', q3, ag⟩ := x_copy (σ := S) (n := 8) (n1 := 10) (G := g17_) (H := S 9) (by decide) f5 his17
  rw [xg_self] at q3
  have gp' : GP H' w17 := ⟨hg.1.ag ag, his17.ag ag⟩
  have b : ∀ n, ¬ n = 8 → xg S 8 H' (n + 1) = S (n + 1) := fun n hn => funext fun c => xg_ne S H' c (by omega)
  have s0 : ∀ c, ¬ c = 3 → ¬ c = 4 → ¬ c = 5 → ∀ j, S 0 c j = 0 := fun c h3 h4 h5 j => by
    rw [f1 0 c (by omega) (by omega), hσ 0 c (by omega)]
    exact if_neg (by omega)
  refine ⟨_, _, q3, rfl, ?_, ⟨0, 0, ?_, ?_, by omega, by omega, ?_, fun k hk => ?_, fun i hi j hj hij => ?_, fun i hi => by omega⟩, ?_, ?_, ?_, ?_⟩
  · rw [mr_at, show xg S 8 H' 9 = H' from funext fun c => xg_at S 8 H' c]; exact gp'
  · rw [xg_0, s0 1 (by decide) (by decide) (by decide)]; rfl
  · rw [xg_0, s0 1 (by decide) (by decide) (by decide)]; rfl
  · rw [th_mr]; rfl
  · rw [mr_ne _ _ (by decide)]
    show 7 ≤ (Int32.ofNat (7 + k)).toInt ∧ (Int32.ofNat (7 + k)).toInt < 15
    rw [oN _ (by omega)]; omega
  · rw [mr_ne _ _ (by decide)]
    show ¬ (Int32.ofNat (7 + i)).toInt.toNat = (Int32.ofNat (7 + j)).toInt.toNat
    rw [oN _ (by omega), oN _ (by omega)]; omega
  · unfold SNr
    rw [xg_0, s0 0 (by decide) (by decide) (by decide), th_mr]
    exact ⟨rfl, Or.inl rfl, fun h => absurd rfl h⟩
  · unfold INr
    rw [xg_0, f4, th_mr]
    exact ⟨rfl, by decide, by decide, fun i hi => absurd hi (by rw [show (τi 0 0 8).toInt = 0 from rfl]; omega)⟩
  · unfold ERr
    rw [xg_0, f2, f3, th_mr]
    exact ⟨rfl, rfl⟩
  · unfold RPr
    rw [xg_0, s0 6 (by decide) (by decide) (by decide), th_mr]
    exact ⟨rfl, by decide, by decide, fun i hi => absurd hi (by rw [show (τi 0 0 10).toInt = 0 from rfl]; omega)⟩
