/-! the law's second question: a visit is only there where it is allowed -/
section GRD
variable {G : Gd} {k b : Nat} {bi : Int32}
theorem sho_23 (h2 : Rf G k b = 0 ∨ ¬ Rf G k b = 0) : Gsho G k b bi 23 (G 27 k).toInt.toNat = if Rf G k b = 0 then G 23 (G 27 k).toInt.toNat + 1 else G 23 (G 27 k).toInt.toNat := by
  unfold Gsho
  by_cases c2 : Rf G k b = 2
  · rw [if_pos c2, if_neg (by rw [c2]; decide)]; rfl
  · by_cases c0 : Rf G k b = 0
    · rw [if_neg c2, if_pos c0, if_pos c0]
      exact upd_at (G 23) _ _
    · rw [if_neg c2, if_neg c0, if_neg c0]
theorem sho_pl : Gsho G k b bi 9 b - Gsho G k b bi 14 b = if Rf G k b = 0 then G 9 b - G 14 b - 1 else G 9 b - G 14 b := by
  unfold Gsho
  by_cases c2 : Rf G k b = 2
  · rw [if_pos c2, if_neg (by rw [c2]; decide)]; rfl
  · by_cases c0 : Rf G k b = 0
    · rw [if_neg c2, if_pos c0, if_pos c0]
      show G 9 b - upd (G 14) b (G 14 b + 1) b = _
      rw [upd_at]
      grind
    · rw [if_neg c2, if_neg c0, if_neg c0]
theorem sho_65 : Gsho G k b bi 6 5 = if Rf G k b = 2 then G 6 5 + 1 else G 6 5 := by
  unfold Gsho
  by_cases c2 : Rf G k b = 2
  · rw [if_pos c2, if_pos c2]
    show upd (G 6) 5 (G 6 5 + 1) 5 = _
    exact upd_at (G 6) _ _
  · rw [if_neg c2, if_neg c2]
    by_cases c0 : Rf G k b = 0
    · rw [if_pos c0]; rfl
    · rw [if_neg c0]
theorem sho_n : Gsho G k b bi 3 0 = G 3 0 ∧ Gsho G k b bi 4 0 = G 4 0 ∧ Gsho G k b bi 5 0 = G 5 0 := by
  unfold Gsho
  split
  · exact ⟨rfl, rfl, rfl⟩
  · split
    · exact ⟨rfl, rfl, rfl⟩
    · exact ⟨rfl, rfl, rfl⟩
theorem sho_0 (c0 : Rf G k b = 0) : Gsho G k b bi 28 k = G 28 k ∧ Opn (Gsho G k b bi) (Tk (Gsho G k b bi)) = Opn G (Tk G) ∧ Td (Gsho G k b bi) = Td G ∧ (∀ p, Gsho G k b bi 16 p = G 16 p ∧ Gsho G k b bi 17 p = G 17 p ∧ Gsho G k b bi 26 p = G 26 p) := by
  unfold Gsho
  rw [if_neg (by rw [c0]; decide), if_pos c0]
  exact ⟨rfl, rfl, rfl, fun p => ⟨rfl, rfl, rfl⟩⟩
theorem Rf_open (h : Rf G k b = 0) : ¬ Opn G (Tk G) = 0 := by
  intro z
  unfold Rf at h
  rw [if_pos z] at h
  exact absurd h (by decide)
variable {σ : Sig}
theorem v_visit (hs : HS σ []) (hi : Iv G) {a c : Int32} (ea : a.toInt = k) (ec : c.toInt = b) (hk : (k : Int) < (G 5 0).toInt) (hb : (b : Int) < (G 3 0).toInt) : ∃ σ1, f11_visit a c (xg σ 8 G) = some (0, Rf G k b, xg σ1 8 (Gsho G k b c)) ∧ HS σ1 [G] ∧ ∀ z, ¬ z = 1 → σ1 0 z = σ 0 z := by
  obtain ⟨σ1, q1, hs1, hz1⟩ := rem_67 hs hi (Nat.zero_le _)
  refine ⟨σ1, ?_, hs1, hz1⟩
  unfold f11_visit
  have c1 : 0 ≤ a.toInt ∧ a.toInt < (G 5 0).toInt := by omega
  have c2 : 0 ≤ c.toInt ∧ c.toInt < (G 3 0).toInt := by omega
  have q2 := x_show (σ := σ1) (n := 8) hi c1 c2
  rw [ea, ec, Int.toNat_natCast, Int.toNat_natCast] at q2
  simp only [q_card c1, q_bed c2, q1, nm_ap, bnd_ap, bns_ap, bnx_ap0, bnx_ap1, bnx_ap2, bnx_ap3, bnx_ap4, gz_0, gz_1, dvd_96, dvd_2, dvd_10000, rmd_96, rmd_8, xg_at, xg_0, mr_at, up_xg, up_mr, narz_0, narz_1, i10, i01, i11, i00, ↓reduceIte, e10, e01, e50, e51, e20, e60, e70, e30, e40, Classical.not_not, not_true_eq_false, not_false_eq_true]
  rw [q2]
  rfl
theorem guard_end (hi : Iv G) {g : Gd} {v : Int32} (hs : HS σ [g]) (hg : Iv g) {p : Nat} {a4 : Int32} (ep : a4.toInt = p) (hp : (p : Int) < (g 4 0).toInt) (hv : v = g 23 p) : ∃ σ2 H', f13_isGuarded_b186 a4 v 1 (xg σ 8 G) = some (1, xg σ2 8 H') ∧ AG g H' ∧ HS σ2 [] ∧ ∀ z, ¬ z = 1 → σ2 0 z = σ 0 z := by
  obtain ⟨r, σ2, H', q, ag, hs2, hz2⟩ := und_67 (G := G) hs
  refine ⟨σ2, H', ?_, ag, hs2, hz2⟩
  unfold f13_isGuarded_b186
  rw [q, bns_eq, if_neg (by decide), u_visitsWith (hg.ag ag) ep (by rw [ag.s2]; exact hp), bns_eq, if_pos (by rw [hv]; exact (ag.p hp).2.2.2.2.2.2.2.2.1)]
theorem guard_67 {n : Nat} (hs : HS σ []) (h : Gok n G) {a c : Int32} (ea : a.toInt = k) (ec : c.toInt = b) (hk : (k : Int) < (G 5 0).toInt) (hb : (b : Int) < (G 3 0).toInt) : ∃ σ2 H', f13_isGuarded a c (xg σ 8 G) = some (1, xg σ2 8 H') ∧ AG G H' ∧ HS σ2 [] ∧ ∀ z, ¬ z = 1 → σ2 0 z = σ 0 z := by
  have hi := h.1
  have h0 := hi.1
  have h1 := hi.k hk
  obtain ⟨σ1, qv, hs1, hz1⟩ := v_visit hs hi ea ec hk hb
  have ep : (G 27 k).toInt = ((G 27 k).toInt.toNat : Nat) := by omega
  have hp : (((G 27 k).toInt.toNat : Nat) : Int) < (G 4 0).toInt := by omega
  have his : Iv (Gsho G k b c) := iv_sho hi hk hb ec
  have hn := sho_n (G := G) (k := k) (b := b) (bi := c)
  have hp' : (((G 27 k).toInt.toNat : Nat) : Int) < (Gsho G k b c 4 0).toInt := by rw [hn.2.1]; exact hp
  have hb' : (b : Int) < (Gsho G k b c 3 0).toInt := by rw [hn.1]; exact hb
  have hk' : (k : Int) < (Gsho G k b c 5 0).toInt := by rw [hn.2.2]; exact hk
  have e23 := sho_23 (G := G) (k := k) (b := b) (bi := c) (Decidable.em _)
  have epl := sho_pl (G := G) (k := k) (b := b) (bi := c)
  have e65 := sho_65 (G := G) (k := k) (b := b) (bi := c)
  have fin : ∃ σ2 H', f13_isGuarded_b186 (G 27 k) (G 23 (G 27 k).toInt.toNat) 1 (xg σ1 8 (Gsho G k b c)) = some (1, xg σ2 8 H') ∧ AG G H' ∧ HS σ2 [] ∧ ∀ z, ¬ z = 1 → σ2 0 z = σ 0 z := by
    obtain ⟨σ2, H', q, ag, hs2, hz2⟩ := guard_end (G := Gsho G k b c) his hs1 hi ep hp rfl
    exact ⟨σ2, H', q, ag, hs2, fun z hz => (hz2 z hz).trans (hz1 z hz)⟩
  unfold f13_isGuarded
  rw [u_whyRefused hi ea ec hk hb, bns_eq, u_passOf hi ea hk, bns_eq, u_visitsWith hi ep hp, bns_eq, u_placesLeft hi ec hb, bns_eq, v_alarms, bnd_eq, wn_ok qv, bns_eq, if_pos rfl, u_visitsWith his ep hp', bns_eq, e23]
  by_cases c0 : Rf G k b = 0
  · rw [if_pos c0] at epl
    rw [if_neg (by rw [c0]; decide)] at e65
    obtain ⟨f1, f2, f3, f4⟩ := sho_0 (bi := c) c0
    have r0 := Rf_0 c0
    have f4 := f4 (G 27 k).toInt.toNat
    have h2 := hi.p hp
    have hpp := Rf_open c0
    have eL : (G 16 (G 27 k).toInt.toNat + G 17 (G 27 k).toInt.toNat - 1).toInt = (G 16 (G 27 k).toInt.toNat).toInt + (G 17 (G 27 k).toInt.toNat).toInt - 1 := tv_sub (tv_add rfl rfl (by omega)) rfl (by omega)
    have z0 : (0 : Int32).toInt = 0 := rfl
    have z30 : (30 : Int32).toInt = 30 := rfl
    rw [if_pos c0, nm_eq, if_pos c0]
    unfold f13_isGuarded_b68
    rw [if_pos rfl, u_placesLeft his ec hb', bns_eq, if_pos c0, nm_eq, epl]
    unfold f13_isGuarded_b89
    rw [if_pos rfl, v_alarms, bnd_eq, e65, if_neg (by rw [c0]; decide)]
    unfold f13_isGuarded_b110
    rw [if_pos rfl]
    unfold f13_isGuarded_b118
    rw [if_pos c0, v_isOpen, bnd_eq, f2, if_neg hpp, u_isBlocked his ea hk', bns_eq, f1, if_pos (ti_ext (by rw [r0.1, z0])), v_day, bnd_eq, f3, u_firstDay his ep hp', bns_eq, f4.1, if_neg (by rw [lt_iff]; omega), v_day, bnd_eq, f3, u_lastDay his ep hp', bns_eq, f4.1, f4.2.1, if_neg (by rw [lt_iff, eL]; omega), u_owed his ep hp', bns_eq, f4.2.2, if_neg (by rw [lt_iff, z30]; omega)]
    unfold f13_isGuarded_b183
    rw [nm_eq, show (1 : Int32) &&& 1 = 1 from rfl]
    exact fin
  · rw [if_neg c0] at epl
    rw [if_neg c0, if_neg c0]
    unfold f13_isGuarded_b68
    rw [if_pos rfl, u_placesLeft his ec hb', bns_eq, if_neg c0, epl]
    unfold f13_isGuarded_b89
    rw [if_pos rfl, v_alarms, bnd_eq, e65]
    by_cases c2 : Rf G k b = 2
    · rw [if_pos c2, if_pos c2, nm_eq]
      unfold f13_isGuarded_b110
      rw [if_pos rfl]
      unfold f13_isGuarded_b118
      rw [if_neg c0]
      exact fin
    · rw [if_neg c2, if_neg c2]
      unfold f13_isGuarded_b110
      rw [if_pos rfl]
      unfold f13_isGuarded_b118
      rw [if_neg c0]
      exact fin
end GRD
