/-! the law's third question: ticks in pieces do the same as at once -/
def snB (G : Gd) (x : Int64) : Nat → Int64
  | 0 => x
  | k + 1 => (31 : Int64) * snB G x k + (G 12 k).toInt64 + ((64 : Int32) * (G 9 k - G 14 k)).toInt64 + (if Se G k (Td G) = 0 then (0 : Int32) else 4096).toInt64
def snP (G : Gd) (x : Int64) : Nat → Int64
  | 0 => x
  | k + 1 => (31 : Int64) * snP G x k + (Rd G k).toInt64 + ((7 : Int32) * Wt G k).toInt64 + ((13 : Int32) * G 26 k).toInt64
def sn0 (G : Gd) : Int64 := (G 1 0).toInt64 + (31 : Int64) * (G 6 0 - G 6 1).toInt64 + (961 : Int64) * (G 6 4).toInt64 + (G 6 5).toInt64
def sn (G : Gd) : Int64 := snP G (snB G (sn0 G) (G 3 0).toInt.toNat) (G 4 0).toInt.toNat
section ALK
variable {σ : Sig} {G H : Gd}
theorem seen_90 (hi : Iv G) {x : Int64} : ∀ (fu k : Nat), k ≤ (G 4 0).toInt.toNat → (G 4 0).toInt.toNat < fu + k → f13_seen_b90 fu (snP G x k) (Int32.ofNat k) (xg σ 8 G) = some (snP G x (G 4 0).toInt.toNat, xg σ 8 G) := by
  have h0 := hi.1
  intro fu
  induction fu with
  | zero => intro k a b; omega
  | succ fu ih =>
    intro k a b
    have ek := oN k (by omega)
    rw [f13_seen_b90, v_passCount, bnd_eq]
    by_cases d : k = (G 4 0).toInt.toNat
    · rw [if_pos (by rw [le_iff, ek]; omega), ← d]
    · have hk : (k : Int) < (G 4 0).toInt := by omega
      have q := ih (k + 1) (by omega) (by omega)
      rw [snP] at q
      rw [if_neg (by rw [le_iff, ek]; omega), nm_eq, u_refundOf hi ek hk, bns_eq, nm_eq, nm_eq, u_ticksUntilReady hi ek hk, bns_eq, nm_eq, nm_eq, nm_eq, u_owed hi ek hk, bns_eq, nm_eq, nm_eq, nm_eq, nm_eq, oN1]
      exact q
theorem seen_34 (hi : Iv G) {x : Int64} : ∀ (fu k : Nat), k ≤ (G 3 0).toInt.toNat → (G 3 0).toInt.toNat < fu + k → f13_seen_b34 fu (snB G x k) (Int32.ofNat k) (xg σ 8 G) = some (snP G (snB G x (G 3 0).toInt.toNat) (G 4 0).toInt.toNat, xg σ 8 G) := by
  have h0 := hi.1
  intro fu
  induction fu with
  | zero => intro k a b; omega
  | succ fu ih =>
    intro k a b
    have ek := oN k (by omega)
    rw [f13_seen_b34, v_bedCount, bnd_eq]
    by_cases d : k = (G 3 0).toInt.toNat
    · have q := seen_90 (σ := σ) hi (x := snB G x k) FU 0 (Nat.zero_le _) (by unfold FU; omega)
      rw [if_pos (by rw [le_iff, ek]; omega), ← d]
      exact q
    · have hk : (k : Int) < (G 3 0).toInt := by omega
      have q := ih (k + 1) (by omega) (by omega)
      rw [snB] at q
      rw [if_neg (by rw [le_iff, ek]; omega), nm_eq, u_blooms hi ek hk, bns_eq, nm_eq, nm_eq, u_placesLeft hi ek hk, bns_eq, nm_eq, nm_eq, nm_eq, u_isInSeason hi ek hk, bns_eq]
      by_cases c : Se G k (Td G) = 0
      · rw [if_pos c] at q ⊢
        unfold f13_seen_b79
        rw [nm_eq, nm_eq, nm_eq, oN1]
        exact q
      · rw [if_neg c] at q ⊢
        unfold f13_seen_b79
        rw [nm_eq, nm_eq, nm_eq, oN1]
        exact q
theorem seen_67 (hi : Iv G) : f13_seen (xg σ 8 G) = some (sn G, xg σ 8 G) := by
  have h0 := hi.1
  have q := seen_34 (σ := σ) hi (x := sn0 G) FU 0 (Nat.zero_le _) (by unfold FU; omega)
  unfold f13_seen
  rw [v_time, bnd_eq, nm_eq, v_takings, bnd_eq, nm_eq, nm_eq, nm_eq, v_plucked, bnd_eq, nm_eq, nm_eq, nm_eq, v_alarms, bnd_eq, nm_eq, nm_eq]
  exact q
theorem snB_ag (a : AG G H) (x : Int64) : ∀ k : Nat, (k : Int) ≤ (G 3 0).toInt → snB H x k = snB G x k := by
  intro k
  induction k with
  | zero => intro _; rfl
  | succ k ih =>
    intro hk
    have e := a.b (b := k) (by omega)
    rw [snB, snB, ih (by omega)]
    unfold Se Td
    rw [e.2.1, e.2.2.1, e.2.2.2.1, e.2.2.2.2.1, e.2.2.2.2.2.2, a.s4]
theorem Rd_ag (a : AG G H) {k : Nat} (hk : (k : Int) < (G 4 0).toInt) : Rd H k = Rd G k := by
  have e := a.p hk
  unfold Rd Dl st Td
  rw [e.2.1, e.2.2.1, e.2.2.2.2.1, e.2.2.2.2.2.2.1, e.2.2.2.2.2.2.2.1, a.s4]
theorem Wt_ag (a : AG G H) {k : Nat} (hk : (k : Int) < (G 4 0).toInt) : Wt H k = Wt G k := by
  have e := a.p hk
  unfold Wt
  rw [e.2.2.2.2.2.2.2.2.2.1, a.s4, a.s6]
theorem snP_ag (a : AG G H) (x : Int64) : ∀ k : Nat, (k : Int) ≤ (G 4 0).toInt → snP H x k = snP G x k := by
  intro k
  induction k with
  | zero => intro _; rfl
  | succ k ih =>
    intro hk
    have e := a.p (p := k) (by omega)
    rw [snP, snP, ih (by omega), Rd_ag a (by omega), Wt_ag a (by omega), e.2.2.2.2.2.2.2.2.2.2.2]
theorem sn_ag (hi : Iv G) (a : AG G H) : sn H = sn G := by
  have h0 := hi.1
  unfold sn
  rw [a.s1, a.s2, snP_ag a _ _ (by omega), snB_ag a _ _ (by omega)]
  unfold sn0
  rw [a.s4, a.s9, a.s10, a.s13, a.s14]
theorem v_pass {l : List Gd} (hs : HS σ l) (hl : l.length ≤ 7) (hi : Iv G) {t : Int32} (ht : 1 ≤ t.toInt ∧ t.toInt ≤ 500 ∧ (G 1 0).toInt + t.toInt ≤ 9599) : ∃ σ1, f11_pass t (xg σ 8 G) = some (0, G 1 0 + t, xg σ1 8 (Gtk G t)) ∧ HS σ1 (G :: l) ∧ ∀ z, ¬ z = 1 → σ1 0 z = σ 0 z := by
  obtain ⟨σ1, q1, hs1, hz1⟩ := rem_67 hs hi hl
  refine ⟨σ1, ?_, hs1, hz1⟩
  have c1 : (1 : Int32).toInt ≤ t.toInt ∧ t.toInt ≤ (500 : Int32).toInt := ⟨ht.1, ht.2.1⟩
  have c2 : (G 1 0).toInt + t.toInt ≤ 9599 := ht.2.2
  unfold f11_pass
  rw [x_range, if_pos c1, bnx_ap0, x_canGo hi (by omega), if_pos c2, bnd_eq, x_state, if_neg (by decide), bnx_ap0, q1, bnd_eq, x_ticks hi ⟨ht.1, c2⟩, bnd_eq, nm_eq]
  rfl
theorem yd_ag (a : AG G H) (d : Int32) {B : Nat} (hB : (B : Int) ≤ (G 3 0).toInt) {f g : Nat → Int32} (h : ∀ b, b < B → g b = f b) : ∀ b, b < B → yd H d B g b = yd G d B f b := by
  intro b hb
  have e := a.b (b := b) (by omega)
  unfold yd Se
  rw [e.2.2.1, e.2.2.2.1, h b hb]
theorem blm_ag (a : AG G H) (hB : 0 ≤ (G 3 0).toInt) (d0 : Nat) : ∀ k b : Nat, b < (G 3 0).toInt.toNat → blm H d0 k b = blm G d0 k b := by
  intro k
  induction k with
  | zero =>
    intro b hb
    exact (a.b (b := b) (by omega)).2.2.2.2.1
  | succ k ih =>
    intro b hb
    rw [blm, blm, a.s1]
    exact yd_ag a _ (by omega) ih b hb
theorem blm_tk (t : Int32) (d0 K : Nat) (h : (Gtk G t) 12 = blm G d0 K) : ∀ k : Nat, blm (Gtk G t) (d0 + K) k = blm G d0 (K + k) := by
  intro k
  induction k with
  | zero => rw [blm]; exact h
  | succ k ih =>
    rw [blm, show K + (k + 1) = K + k + 1 from rfl, blm, ih]
    rw [show d0 + K + k + 1 = d0 + (K + k) + 1 by omega]
    rfl
theorem tk_tk (hi : Iv G) (a : AG G H) {s t : Int32} (hs : 1 ≤ s.toInt) (ht : 1 ≤ t.toInt) (hst : (G 1 0).toInt + s.toInt + t.toInt ≤ 9599) : AG (Gtk (Gtk G s) t) (Gtk H (s + t)) := by
  have h0 := hi.1
  have d1 := Td_in hi
  have e1 : (G 1 0 + s).toInt = (G 1 0).toInt + s.toInt := tv_add rfl rfl (by omega)
  have e2 : (s + t).toInt = s.toInt + t.toInt := tv_add rfl rfl (by omega)
  have i1 := iv_tk hi (t := s) (by omega)
  have d2 := Td_in i1
  have t1 : Gtk G s 1 0 = G 1 0 + s := rfl
  rw [t1, e1] at d2
  have n1 : ∀ c, ¬ c = 1 ∧ ¬ c = 14 ∧ ¬ c = 12 → Gtk (Gtk G s) t c = G c := fun c hc => (fr_ne _ _ _ _ hc).trans (fr_ne _ _ _ _ hc)
  have n2 : ∀ c, ¬ c = 1 ∧ ¬ c = 14 ∧ ¬ c = 12 → Gtk H (s + t) c = H c := fun c hc => fr_ne _ _ _ _ hc
  have o1 : Gtk (Gtk G s) t 1 = upd (upd (G 1) 0 (G 1 0 + s)) 0 (G 1 0 + s + t) := rfl
  have o2 : Gtk H (s + t) 1 = upd (H 1) 0 (H 1 0 + (s + t)) := rfl
  have p1 : Gtk (Gtk G s) t 14 = zz (G 3 0).toInt.toNat (zz (G 3 0).toInt.toNat (G 14)) := rfl
  have p2' : Gtk H (s + t) 14 = zz (H 3 0).toInt.toNat (H 14) := rfl
  have q1 : Gtk (Gtk G s) t 12 = blm (Gtk G s) (Td (Gtk G s)).toInt.toNat (((Gtk G s 1 0).toInt + t.toInt) / 96 - (Gtk G s 1 0).toInt / 96).toNat := rfl
  have q2 : Gtk H (s + t) 12 = blm H (Td H).toInt.toNat (((H 1 0).toInt + (s + t).toInt) / 96 - (H 1 0).toInt / 96).toNat := rfl
  have q3 := blm_tk (G := G) s (Td G).toInt.toNat (((G 1 0).toInt + s.toInt) / 96 - (G 1 0).toInt / 96).toNat rfl
  rw [show (Td G).toInt.toNat + (((G 1 0).toInt + s.toInt) / 96 - (G 1 0).toInt / 96).toNat = (Td (Gtk G s)).toInt.toNat by omega] at q3
  rw [q3, t1, e1] at q1
  rw [show Td H = Td G by unfold Td; rw [a.s4], a.s4, e2] at q2
  rw [show (((G 1 0).toInt + s.toInt) / 96 - (G 1 0).toInt / 96).toNat + (((G 1 0).toInt + s.toInt + t.toInt) / 96 - ((G 1 0).toInt + s.toInt) / 96).toNat = (((G 1 0).toInt + (s.toInt + t.toInt)) / 96 - (G 1 0).toInt / 96).toNat by omega] at q1
  have m : ∀ c j, (¬ c = 1 ∧ ¬ c = 14 ∧ ¬ c = 12) → H c j = G c j → Gtk H (s + t) c j = Gtk (Gtk G s) t c j := fun c j hc h => by rw [n1 c hc, n2 c hc, h]
  have b3 : (Gtk (Gtk G s) t 3 0) = G 3 0 := by rw [n1 3 (by decide)]
  have b2 : (Gtk (Gtk G s) t 2 0) = G 2 0 := by rw [n1 2 (by decide)]
  have b4 : (Gtk (Gtk G s) t 4 0) = G 4 0 := by rw [n1 4 (by decide)]
  have b5 : (Gtk (Gtk G s) t 5 0) = G 5 0 := by rw [n1 5 (by decide)]
  refine ⟨⟨m 2 0 (by decide) a.s0, m 3 0 (by decide) a.s1, m 4 0 (by decide) a.s2, m 5 0 (by decide) a.s3, ?_, m 2 1 (by decide) a.s5, m 0 6 (by decide) a.s6, ?_, ?_, m 6 0 (by decide) a.s9, m 6 1 (by decide) a.s10, m 6 2 (by decide) a.s11, m 6 3 (by decide) a.s12, m 6 4 (by decide) a.s13, m 6 5 (by decide) a.s14⟩, fun i hq => ?_, fun b hb => ?_, fun p hp => ?_, fun k hk => ?_⟩
  · rw [o1, o2, upd_at, upd_at, a.s4]; grind
  · rw [o1, o2, upd_ne _ _ (by decide), upd_ne _ _ (by decide), upd_ne _ _ (by decide), a.s7]
  · rw [o1, o2, upd_ne _ _ (by decide), upd_ne _ _ (by decide), upd_ne _ _ (by decide), a.s8]
  · rw [b2] at hq
    exact m 7 i (by decide) (a.i hq)
  · rw [b3] at hb
    have e := a.b hb
    refine ⟨m 8 b (by decide) e.1, m 9 b (by decide) e.2.1, m 10 b (by decide) e.2.2.1, m 11 b (by decide) e.2.2.2.1, ?_, m 13 b (by decide) e.2.2.2.2.2.1, ?_⟩
    · rw [q1, q2]
      exact blm_ag a (by omega) _ _ b (by omega)
    · rw [p1, p2', a.s1]
      unfold zz
      rw [if_pos (by omega), if_pos (by omega)]
  · rw [b4] at hp
    have e := a.p hp
    exact ⟨m 15 p (by decide) e.1, m 16 p (by decide) e.2.1, m 17 p (by decide) e.2.2.1, m 18 p (by decide) e.2.2.2.1, m 19 p (by decide) e.2.2.2.2.1, m 20 p (by decide) e.2.2.2.2.2.1, m 21 p (by decide) e.2.2.2.2.2.2.1, m 22 p (by decide) e.2.2.2.2.2.2.2.1, m 23 p (by decide) e.2.2.2.2.2.2.2.2.1, m 24 p (by decide) e.2.2.2.2.2.2.2.2.2.1, m 25 p (by decide) e.2.2.2.2.2.2.2.2.2.2.1, m 26 p (by decide) e.2.2.2.2.2.2.2.2.2.2.2⟩
  · rw [b5] at hk
    have e := a.k hk
    exact ⟨m 27 k (by decide) e.1, m 28 k (by decide) e.2⟩
theorem alike_67 (hs : HS σ []) (hi : Iv G) {s t : Int32} (h1 : 1 ≤ s.toInt ∧ s.toInt ≤ 200) (h2 : 1 ≤ t.toInt ∧ t.toInt ≤ 200) (hst : (G 1 0).toInt + s.toInt + t.toInt ≤ 9599) : ∃ σ2 H', f13_isAlike s t (xg σ 8 G) = some (1, xg σ2 8 H') ∧ AG G H' ∧ HS σ2 [] ∧ ∀ z, ¬ z = 1 → σ2 0 z = σ 0 z := by
  have h0 := hi.1
  have e1 : (G 1 0 + s).toInt = (G 1 0).toInt + s.toInt := tv_add rfl rfl (by omega)
  have e2 : (s + t).toInt = s.toInt + t.toInt := tv_add rfl rfl (by omega)
  have e3 : (G 1 0 + s + t).toInt = (G 1 0).toInt + s.toInt + t.toInt := tv_add e1 rfl (by omega)
  have z7 : (-7777 : Int32).toInt = -7777 := rfl
  have i1 := iv_tk hi (t := s) (by omega)
  have t1 : Gtk G s 1 0 = G 1 0 + s := rfl
  obtain ⟨σ1, q1, hs1, z1⟩ := v_pass hs (by decide) hi (t := s) (by omega)
  obtain ⟨σ2, q2, hs2, z2⟩ := v_pass hs1 (by simp) i1 (t := t) (by rw [t1, e1]; omega)
  rw [t1] at q2
  have i2 := iv_tk i1 (t := t) (by rw [t1, e1]; omega)
  obtain ⟨r3, σ3, H1, q3, a3, hs3, z3⟩ := und_67 (G := Gtk (Gtk G s) t) hs2
  obtain ⟨r4, σ4, H, q4, a4, hs4, z4⟩ := und_67 (G := H1) hs3
  have iH := hi.ag a4
  obtain ⟨σ5, q5, hs5, z5⟩ := v_pass hs4 (by decide) iH (t := s + t) (by rw [a4.s4, e2]; omega)
  have a5 := tk_tk hi a4 h1.1 h2.1 (by omega)
  have i5 := i2.ag a5
  obtain ⟨r6, σ6, H2, q6, a6, hs6, z6⟩ := und_67 (G := Gtk H (s + t)) hs5
  have a7 := a4.tr a6
  refine ⟨σ6, H2, ?_, a7, hs6, fun z hz => by rw [z6 z hz, z5 z hz, z4 z hz, z3 z hz, z2 z hz, z1 z hz]⟩
  unfold f13_isAlike
  rw [seen_67 hi, bnl_eq rfl, wn_ok q1, bns_eq, wn_ok q2, bns_eq, if_neg (fun z => by rw [← Int32.toInt_inj, e1, z7] at z; omega), if_neg (fun z => by rw [← Int32.toInt_inj, e3, z7] at z; omega), seen_67 i2, bnl_eq rfl, q3, bns_eq, q4, bns_eq, nm_eq, wn_ok q5, bns_eq, if_pos (by rw [a4.s4]; grind), seen_67 i5, bnl_eq rfl, nm_eq, sn_ag i2 a5, if_pos ((lg_cmp_eq _ _).mpr rfl)]
  unfold f13_isAlike_b80
  rw [q6, bns_eq, if_neg (by decide), seen_67 (hi.ag a7), bnl_eq rfl, nm_eq, sn_ag hi a7, if_pos ((lg_cmp_eq _ _).mpr rfl)]
end ALK
