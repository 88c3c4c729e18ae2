/-! THE MATHEMATICS, 11: the past -/
def isR (c : Nat) : Prop := 7 ≤ c ∧ c < 15
/-- the latest changes of both: c of them, the class's next slot x -/
def HRn (c x : Nat) (σ τ : Sig) : Prop :=
  σ 0 1 1 = Int32.ofNat c ∧ σ 0 1 2 = Int32.ofNat x ∧ c ≤ 8 ∧ x < 8 ∧ τ 0 0 3 = Int32.ofNat c
  ∧ (∀ k, k < 8 → 7 ≤ (τ 0 2 k).toInt ∧ (τ 0 2 k).toInt < 15)
  ∧ (∀ i, i < 8 → ∀ j, j < 8 → ¬ i = j → ¬ (τ 0 2 i).toInt.toNat = (τ 0 2 j).toInt.toNat)
  ∧ (∀ i, i < c → GP (σ ((x + 8 - c + i) % 8 + 1)) (τ 0 (τ 0 2 i).toInt.toNat))
def HR (σ τ : Sig) : Prop := ∃ c x, HRn c x σ τ
/-- what stays on the class's side: all but the past's cells and gardens -/
def KX (σ σ' : Sig) : Prop := (∀ n, 8 ≤ n → σ' (n + 1) = σ (n + 1)) ∧ ∀ c, ¬ c = 1 → σ' 0 c = σ 0 c
/-- what stays on the reference's side -/
def KM (τ τ' : Sig) : Prop := (∀ c, ¬ c = 0 → ¬ c = 2 → c < 7 → τ' 0 c = τ 0 c) ∧ ∀ j, ¬ j = 3 → τ' 0 0 j = τ 0 0 j
theorem KX.rf (σ : Sig) : KX σ σ := ⟨fun _ _ => rfl, fun _ _ => rfl⟩
theorem KM.rf (τ : Sig) : KM τ τ := ⟨fun _ _ _ _ => rfl, fun _ _ => rfl⟩
theorem alw_in {β : Type} {τ : Sig} {i : Int32} {k : Nat} {f : Nat → Option β} (hi : i.toInt = k) (hk : k < 8) (h : 7 ≤ (τ 0 2 k).toInt ∧ (τ 0 2 k).toInt < 15) : alw τ i f = f (τ 0 2 k).toInt.toNat := by
  unfold alw
  rw [alr_in (by omega), hi, Int.toNat_natCast]
  rw [if_pos]
  · rfl
  · rw [show (τ 0 2 k).toNatClampNeg = (τ 0 2 k).toInt.toNat from rfl]
    exact isWb_to ⟨by omega, by omega, by omega, by omega, by omega⟩
theorem asw_in {β : Type} {τ : Sig} {i : Int32} {k c : Nat} {f : Sig → Option β} (hi : i.toInt = k) (hk : k < 8) : asw τ i c f = f (up τ 0 2 k (Int32.ofNat c)) := by
  unfold asw
  rw [alr_in (by omega), hi, Int.toNat_natCast]
theorem rm8 {x : Nat} (hx : x < 16) : (Int32.ofNat x - Int32.ofNat x / 8 * 8) = Int32.ofNat (x % 8) := by
  have : ∀ x : Fin 16, (Int32.ofNat x.1 - Int32.ofNat x.1 / 8 * 8) = Int32.ofNat (x.1 % 8) := by decide +kernel
  exact this ⟨x, hx⟩
theorem min8 {c : Nat} (hc : c ≤ 8) : (if Int32.ofNat c + 1 < 8 then Int32.ofNat c + 1 else (8 : Int32)) = Int32.ofNat (min (c + 1) 8) := by
  have : ∀ x : Fin 9, (if Int32.ofNat x.1 + 1 < 8 then Int32.ofNat x.1 + 1 else (8 : Int32)) = Int32.ofNat (min (x.1 + 1) 8) := by decide +kernel
  exact this ⟨c, by omega⟩
/-- the class remembers its garden 8 in its slot x -/
theorem x_remember {σ τ : Sig} {c x : Nat} (h : HRn c x σ τ) (hi : Iv (σ 9)) : ∃ H', f5_remember 8 σ = some (up (up (xg σ x H') 0 1 2 (Int32.ofNat ((x + 1) % 8))) 0 1 1 (Int32.ofNat (min (c + 1) 8))) ∧ AG (σ 9) H' := by
  obtain ⟨h1, h2, h3, h4, -⟩ := h
  obtain ⟨H', q, a⟩ := x_copy (σ := σ) (n := x) (n1 := 8) (H := σ (x + 1)) (by omega) rfl hi
  rw [xg_self] at q
  refine ⟨H', ?_, a⟩
  have e1 : (Int32.ofNat x).toInt = x := oN x (by omega)
  unfold f5_remember
  simp only [nm_ap, h2]
  rw [alr_in (by omega), e1, Int.toNat_natCast, q]
  simp only [nm_ap, bnd_ap, bns_ap, bnx_ap0, bnx_ap1, bnx_ap2, bnx_ap3, bnx_ap4, gz_0, gz_1, dvd_96, dvd_2, dvd_10000, rmd_96, rmd_8, xg_at, xg_0, mr_at, up_xg, up_mr, narz_0, narz_1, i10, i01, i11, i00, ↓reduceIte, e10, e01, e50, e51, e20, e60, e70, e30, e40, Classical.not_not, not_true_eq_false, not_false_eq_true, h2, oN1, rm8 (show x + 1 < 16 by omega)]
  rw [show up (xg σ x H') 0 1 2 (Int32.ofNat ((x + 1) % 8)) 0 1 1 = σ 0 1 1 from by rw [up_self, upd_ne _ _ (by decide), xg_0], h1, min8 h3]
theorem nm_eq {α β : Type} (a : α) (f : α → β) : nm a f = f a := by
  unfold nm
  exact rfl
/-- the reference's rows turn once -/

theorem m_turn_l {τ : Sig} {c1 : Nat} {y : Nat} : ∀ (fu k : Nat) (τ1 : Sig), 1 ≤ k → k ≤ 8 → 8 < fu + k → (∀ i, i < 8 → τ1 0 2 i = if i + 1 < k then τ 0 2 (i + 1) else τ 0 2 i) → (∀ g c, ¬ (g = 0 ∧ c = 2) → τ1 g c = τ g c) → (∀ k, k < 8 → 7 ≤ (τ 0 2 k).toInt ∧ (τ 0 2 k).toInt < 15) → ∃ τ2 : Sig, f12_remember_b18 c1 fu (Int32.ofNat k) y τ1 = f12_remember_b62 c1 (up τ2 0 0 3 (τ 0 0 3 - 1)) ∧ (∀ i, i < 8 → τ2 0 2 i = if i + 1 < 8 then τ 0 2 (i + 1) else Int32.ofNat y) ∧ (∀ g c, ¬ (g = 0 ∧ c = 2) → τ2 g c = τ g c) := by
  intro fu
  induction fu with
  | zero => intro k τ1 h0 h1 h2; omega
  | succ fu ih =>
    intro k τ1 h0 h1 h2 h3 h4 h5
    have ek := oN k (by omega)
    have e8 : (8 : Int32).toInt = 8 := rfl
    rw [f12_remember_b18]
    by_cases hk : k = 8
    · have c8 : (8 : Int32) ≤ Int32.ofNat k := by rw [Int32.le_iff_toInt_le, ek, e8]; omega
      have e7 : ((7 : Int32)).toInt = ((7 : Nat) : Int) := oN 7 (by omega)
      rw [if_pos c8, asw_in (i := 7) (k := 7) (c := y) e7 (by omega), nm_eq, nm_eq, nm_eq]
      refine ⟨up τ1 0 2 7 (Int32.ofNat y), ?_, fun i hi => ?_, fun g c hg => ?_⟩
      · rw [up_ne τ1 7 _ (by decide : ¬ (0 = 0 ∧ 0 = 2)), h4 0 0 (by decide)]
      · rw [up_self]
        by_cases e : i = 7
        · rw [e, upd_at, if_neg (by omega)]
        · rw [upd_ne _ _ e, h3 i hi, if_pos (by omega), if_pos (by omega)]
      · rw [up_ne _ _ _ hg, h4 g c hg]
    · rw [if_neg (by rw [Int32.le_iff_toInt_le, ek, e8]; omega)]
      have e1 : (Int32.ofNat k - 1).toInt = ((k - 1 : Nat) : Int) := by rw [tv_sub ek (show (1 : Int32).toInt = 1 from rfl) (by omega)]; omega
      have ev : τ1 0 2 k = τ 0 2 k := by rw [h3 k (by omega), if_neg (by omega)]
      rw [nm_eq, alw_in ek (by omega) (by rw [ev]; exact h5 k (by omega)), asw_in (k := k - 1) e1 (by omega), nm_eq, oN1]
      refine ih (k + 1) _ (by omega) (by omega) (by omega) (fun i hi => ?_) (fun g c hg => ?_) h5
      · rw [up_self]
        by_cases e : i = k - 1
        · rw [e, upd_at, if_pos (by omega), ev, show k - 1 + 1 = k by omega]
          have := h5 k (by omega)
          exact ti_ext (by rw [oN _ (by omega)]; omega)
        · rw [upd_ne _ _ e, h3 i hi]
          by_cases e2 : i + 1 < k
          · rw [if_pos e2, if_pos (by omega)]
          · rw [if_neg e2, if_neg (by omega)]
      · rw [up_ne _ _ _ hg, h4 g c hg]
/-- the row c1 is laid down as the newest -/
theorem m_b62 {τ : Sig} {c1 k : Nat} (h3 : τ 0 0 3 = Int32.ofNat k) (hk : k < 8) (hr : 7 ≤ (τ 0 2 k).toInt ∧ (τ 0 2 k).toInt < 15) (hc : c1 < 7) : f12_remember_b62 c1 τ = some (up (mw2 τ (τ 0 2 k).toInt.toNat (cpl 536 (τ 0 c1) (τ 0 (τ 0 2 k).toInt.toNat))) 0 0 3 (Int32.ofNat (k + 1))) := by
  unfold f12_remember_b62
  simp only [nm_ap, h3]
  rw [alw_in (oN k (by omega)) hk hr, m_copy (by omega)]
  simp only [nm_ap, bnd_ap, bns_ap, bnx_ap0, bnx_ap1, bnx_ap2, bnx_ap3, bnx_ap4, gz_0, gz_1, dvd_96, dvd_2, dvd_10000, rmd_96, rmd_8, xg_at, xg_0, mr_at, up_xg, up_mr, narz_0, narz_1, i10, i01, i11, i00, ↓reduceIte, e10, e01, e50, e51, e20, e60, e70, e30, e40, Classical.not_not, not_true_eq_false, not_false_eq_true]
  rw [mw2_ne _ _ _ (by omega), h3, oN1]
/-- both remember: the class its garden 8, the reference its row c1 -/
theorem remember_ok {σ τ : Sig} {c1 : Nat} (hc : c1 = 1 ∨ c1 = 4) (hg : GP (σ 9) (τ 0 c1)) (h : HR σ τ) : ∃ σ' τ', f5_remember 8 σ = some σ' ∧ f12_remember c1 τ = some τ' ∧ HR σ' τ' ∧ KX σ σ' ∧ KM τ τ' := by
  obtain ⟨c, x, hn⟩ := h
  obtain ⟨H', q, a⟩ := x_remember hn hg.2
  obtain ⟨h1, h2, h3, h4, h5, h6, h7, h8⟩ := hn
  have gH : GP H' (τ 0 c1) := ⟨hg.1.ag a, hg.2.ag a⟩
  -- the class's side
  have sx : ∀ n, ¬ n = x → (up (up (xg σ x H') 0 1 2 (Int32.ofNat ((x + 1) % 8))) 0 1 1 (Int32.ofNat (min (c + 1) 8))) (n + 1) = σ (n + 1) := by
    intro n hx
    funext c'
    rw [up_ne _ _ _ (by omega), up_ne _ _ _ (by omega), xg_ne _ _ _ (by omega)]
  have sx2 : (up (up (xg σ x H') 0 1 2 (Int32.ofNat ((x + 1) % 8))) 0 1 1 (Int32.ofNat (min (c + 1) 8))) (x + 1) = H' := by
    funext c'
    rw [up_ne _ _ _ (by omega), up_ne _ _ _ (by omega), xg_at]
  have kx : KX σ (up (up (xg σ x H') 0 1 2 (Int32.ofNat ((x + 1) % 8))) 0 1 1 (Int32.ofNat (min (c + 1) 8))) := by
    refine ⟨fun n hn => sx n (by omega), fun c' hc' => ?_⟩
    rw [up_ne _ _ _ (by omega), up_ne _ _ _ (by omega), xg_0]
  by_cases hc8 : c = 8
  · -- full: the oldest row is used again
    subst hc8
    obtain ⟨τ2, r1, r2, r3⟩ := m_turn_l (τ := τ) (c1 := c1) (y := (τ 0 2 0).toInt.toNat) FU 1 τ (by omega) (by omega) (by unfold FU; omega) (fun i hi => by rw [if_neg (by omega)]) (fun _ _ _ => rfl) h6
    have e7 : τ 0 0 3 - 1 = Int32.ofNat 7 := by rw [h5]; rfl
    rw [e7] at r1
    have o0 : Int32.ofNat (τ 0 2 0).toInt.toNat = τ 0 2 0 := by
      have := h6 0 (by omega)
      exact ti_ext (by rw [oN _ (by omega)]; omega)
    have t2 : ∀ i, i < 8 → (up τ2 0 0 3 (Int32.ofNat 7)) 0 2 i = if i + 1 < 8 then τ 0 2 (i + 1) else τ 0 2 0 := by
      intro i hi
      rw [up_ne _ _ _ (by decide : ¬ (0 = 0 ∧ 2 = 0)), r2 i hi, o0]
    have t27 := t2 7 (by omega)
    rw [if_neg (by omega)] at t27
    have z := m_b62 (τ := up τ2 0 0 3 (Int32.ofNat 7)) (c1 := c1) (k := 7) (by rw [up_self, upd_at]) (by omega) (by rw [t27]; exact h6 0 (by omega)) (by omega)
    rw [t27] at z
    have hq : f12_remember c1 τ = f12_remember_b62 c1 (up τ2 0 0 3 (Int32.ofNat 7)) := by
      unfold f12_remember
      simp only [nm_ap, h5]
      rw [if_pos (show Int32.ofNat 8 = 8 from rfl), alw_in (k := 0) (by decide) (by omega) (h6 0 (by omega))]
      exact r1
    have row0 := h6 0 (by omega)
    have hrow : ∀ c', 1 ≤ c' → ¬ c' = 2 → (up τ2 0 0 3 (Int32.ofNat 7)) 0 c' = τ 0 c' := fun c' h0 h2 => by rw [up_ne _ _ _ (by omega), r3 0 c' (by omega)]
    refine ⟨_, _, q, hq.trans z, ⟨8, (x + 1) % 8, ?_, ?_, by omega, by omega, ?_, fun k hk => ?_, fun i hi j hj hij => ?_, fun i hi => ?_⟩, kx, ⟨fun c' h0 h2 h9 => ?_, fun j hj => ?_⟩⟩
    · rw [up_self, upd_at]; rfl
    · rw [up_self, upd_ne _ _ (by decide), up_self, upd_at]
    · rw [up_self, upd_at]
    · rw [up_ne _ _ _ (by decide : ¬ (0 = 0 ∧ 2 = 0)), mw2_ne _ _ _ (by omega), t2 k hk]
      split
      · exact h6 _ (by omega)
      · exact row0
    · rw [up_ne _ _ _ (by decide : ¬ (0 = 0 ∧ 2 = 0)), mw2_ne _ _ _ (by omega), t2 i hi, t2 j hj]
      split
      · split
        · exact h7 _ (by omega) _ (by omega) (by omega)
        · exact h7 _ (by omega) _ (by omega) (by omega)
      · split
        · exact h7 _ (by omega) _ (by omega) (by omega)
        · omega
    · rw [up_ne _ _ _ (by decide : ¬ (0 = 0 ∧ 2 = 0)), mw2_ne _ _ _ (by omega), t2 i hi]
      by_cases e : i = 7
      · subst e
        rw [if_neg (by omega), show ((x + 1) % 8 + 8 - 8 + 7) % 8 = x by omega, sx2, up_ne _ _ _ (by omega), mw2_at, hrow c1 (by omega) (by omega)]
        exact gH.cpl
      · rw [if_pos (by omega), show ((x + 1) % 8 + 8 - 8 + i) % 8 = (x + 8 - 8 + (i + 1)) % 8 by omega, sx _ (by omega)]
        have hne := h7 (i + 1) (by omega) 0 (by omega) (by omega)
        have hrw := h6 (i + 1) (by omega)
        rw [up_ne _ _ _ (by omega), mw2_ne _ _ _ (by omega), hrow _ (by omega) (by omega)]
        exact h8 (i + 1) (by omega)
    · rw [up_ne _ _ _ (by omega), mw2_ne _ _ _ (by omega), hrow _ (by omega) h2]
    · rw [up_self, upd_ne _ _ hj, mw2_ne _ _ _ (by omega), up_self, upd_ne _ _ hj, r3 0 0 (by decide)]
  · -- there's room
    have rowc := h6 c (by omega)
    have z := m_b62 (τ := τ) (c1 := c1) (k := c) h5 (by omega) rowc (by omega)
    have hq : f12_remember c1 τ = f12_remember_b62 c1 τ := by
      unfold f12_remember
      simp only [nm_ap, h5]
      rw [if_neg]
      intro e
      have := congrArg Int32.toInt e
      rw [oN _ (by omega)] at this
      have e8 : (8 : Int32).toInt = 8 := rfl
      omega
    refine ⟨_, _, q, hq.trans z, ⟨c + 1, (x + 1) % 8, ?_, ?_, by omega, by omega, ?_, fun k hk => ?_, fun i hi j hj hij => ?_, fun i hi => ?_⟩, kx, ⟨fun c' h0 h2 h9 => ?_, fun j hj => ?_⟩⟩
    · rw [up_self, upd_at, show min (c + 1) 8 = c + 1 by omega]
    · rw [up_self, upd_ne _ _ (by decide), up_self, upd_at]
    · rw [up_self, upd_at]
    · rw [up_ne _ _ _ (by decide : ¬ (0 = 0 ∧ 2 = 0)), mw2_ne _ _ _ (by omega)]
      exact h6 k hk
    · rw [up_ne _ _ _ (by decide : ¬ (0 = 0 ∧ 2 = 0)), mw2_ne _ _ _ (by omega)]
      exact h7 i hi j hj hij
    · rw [up_ne _ _ _ (by decide : ¬ (0 = 0 ∧ 2 = 0)), mw2_ne _ _ _ (by omega)]
      by_cases e : i = c
      · subst e
        rw [show ((x + 1) % 8 + 8 - (i + 1) + i) % 8 = x by omega, sx2, up_ne _ _ _ (by omega), mw2_at]
        exact gH.cpl
      · rw [show ((x + 1) % 8 + 8 - (c + 1) + i) % 8 = (x + 8 - c + i) % 8 by omega, sx _ (by omega)]
        have hne := h7 i (by omega) c (by omega) e
        have hrw := h6 i (by omega)
        rw [up_ne _ _ _ (by omega), mw2_ne _ _ _ (by omega)]
        exact h8 i (by omega)
    · rw [up_ne _ _ _ (by omega), mw2_ne _ _ _ (by omega)]
    · rw [up_self, upd_ne _ _ hj, mw2_ne _ _ _ (by omega)]
