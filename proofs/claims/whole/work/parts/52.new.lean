/-! THE MATHEMATICS, 33: both objects, new -/
def σi : Sig := fun g c j => if g = 0 ∧ c = 3 ∧ j = 3 then -1 else 0
def τi : Sig := fun g c j => if g = 0 ∧ c = 2 then Int32.ofNat (7 + j) else if g = 0 ∧ c = 0 ∧ j = 18 then -1 else 0
def fX : Option Sig := bnd (f6_fill 0 σi) fun s1 => bnd (f9_execute s1) fun s2 => nm (up s2 0 4 1 0) fun s3 => f4_copyFrom 8 10 s3
def fM : Option Sig :=
  bnd (f12_empty τi) fun s1 =>
  bnd (f12_addScentAt 30 s1) fun s2 =>
  bnd (f12_addScentAt 20 s2) fun s3 =>
  bnd (f12_addScentAt 15 s3) fun s4 =>
  bns (f12_makeBed 0 2 0 9 s4) fun _ s5 =>
  bns (f12_makeBed 1 1 5 9 s5) fun _ s6 =>
  bns (f12_makeBed 2 3 0 0 s6) fun _ s7 =>
  bns (f12_makePass 1 0 1 0 s7) fun _ s8 =>
  bns (f12_makePass 3 0 6 0 s8) fun _ s9 =>
  bns (f12_makePass 7 1 3 1 s9) fun _ s10 =>
  bnd (f12_passAll 40 s10) fun s11 =>
  bns (f12_show 0 0 s11) fun _ s12 =>
  bns (f12_show 1 1 s12) fun _ s13 =>
  bns (f12_take 0 2 s13) fun _ s14 =>
  bnd (f12_passAll 2 s14) fun s15 =>
  bns (f12_show 1 0 s15) fun _ s16 =>
  bns (f12_take 1 3 s16) fun _ s17 =>
  bns (f12_lose 0 s17) fun _ s18 =>
  some s18
theorem s_scent {G : Gd} {w : Rw} (hg : GP G w) {N : Nat} {v : Int32} (hN : (G 2 0).toInt = N) (hN5 : N < 5) (hv : 1 ≤ v.toInt ∧ v.toInt ≤ 99) (τ : Sig) : ∃ w', f12_addScentAt v (mr τ w) = some (mr τ w') ∧ GP (Gsc G N v) w' := by
  refine ⟨_, m_scent (by rw [hg.1.s0]; omega), ?_⟩
  rw [hg.1.s0, show (G 2 0).toInt.toNat = N from by omega]
  exact ⟨rg_sc hg.1 hN hN5 _ hg.2.bd, iv_sc hg.2 hN hN5 hv⟩
theorem s_bed {G : Gd} {w : Rw} (hg : GP G w) {N : Nat} {a b c d : Int32} (hN : (G 3 0).toInt = N) (hN5 : N < 8) (hv : 1 ≤ b.toInt ∧ b.toInt ≤ 20) (τ : Sig) : ∃ r w', f12_makeBed a b c d (mr τ w) = some (r, mr τ w') ∧ GP (Gbed G N a b c d) w' := by
  refine ⟨_, _, m_mkBed (by rw [hg.1.s1]; omega), ?_⟩
  rw [hg.1.s1, show (G 3 0).toInt.toNat = N from by omega]
  exact ⟨rg_bed hg.1 hN hN5 _ _ _ _ hg.2.bd, iv_bed hg.2 hN hN5 hv⟩
theorem s_sell {G : Gd} {w : Rw} (hg : GP G w) {N K : Nat} {a b c d : Int32} (hN : (G 4 0).toInt = N) (hN5 : N < 30) (hK : (G 5 0).toInt = K) (hK5 : K < 50) (hb : 0 ≤ b.toInt ∧ b.toInt ≤ 99) (hc : 1 ≤ c.toInt ∧ c.toInt ≤ 14) (hd : 0 ≤ d.toInt ∧ d.toInt ≤ 1) (τ : Sig) : ∃ r w', f12_makePass a b c d (mr τ w) = some (r, mr τ w') ∧ GP (Gsel G N K a b c d (Pr G a c d)) w' := by
  have h0 := hg.2.1
  refine ⟨_, _, m_sell hg.1 τ (by omega) (by omega) (by omega) (by omega), ?_⟩
  rw [show (G 4 0).toInt.toNat = N from by omega, show (G 5 0).toInt.toNat = K from by omega]
  exact ⟨rg_sel hg.1 hN hK hN5 hK5 _ _ _ _ _ hg.2.bd, iv_sel hg.2 hN hK hN5 hK5 hb hc hd (Pr_in hg.2 hc)⟩
theorem s_pass {G : Gd} {w : Rw} (hg : GP G w) {a : Int32} (ha : 1 ≤ a.toInt ∧ a.toInt ≤ 500) (hb : (G 1 0).toInt + a.toInt ≤ 9599) (τ : Sig) : ∃ w', f12_passAll a (mr τ w) = some (mr τ w') ∧ GP (Gtk G a) w' := by
  obtain ⟨w', z1, z2⟩ := m_ticks (τ := τ) hg.1 hg.2 (t := a) ⟨ha.1, ha.2, hb⟩
  exact ⟨w', z1, z2, iv_tk hg.2 ⟨ha.1, hb⟩⟩
theorem s_show {G : Gd} {w : Rw} (hg : GP G w) {a b : Int32} (ha : 0 ≤ a.toInt ∧ a.toInt < (G 5 0).toInt) (hb : 0 ≤ b.toInt ∧ b.toInt < (G 3 0).toInt) (τ : Sig) : ∃ r w', f12_show a b (mr τ w) = some (r, mr τ w') ∧ GP (Gsho G a.toInt.toNat b.toInt.toNat b) w' :=
  ⟨_, _, m_show hg.1 hg.2 τ ha hb, gp_show hg (by omega) (by omega) (by omega)⟩
theorem s_take {G : Gd} {w : Rw} (hg : GP G w) {a b : Int32} (ha : 0 ≤ a.toInt ∧ a.toInt < (G 5 0).toInt) (hb : 1 ≤ b.toInt ∧ b.toInt ≤ 9) (hc : CpP G a.toInt.toNat b) (τ : Sig) : ∃ r w', f12_take a b (mr τ w) = some (r, mr τ w') ∧ GP (Gplk G (G 27 a.toInt.toNat).toInt.toNat (G 25 (G 27 a.toInt.toNat).toInt.toNat).toInt.toNat (Fn G (G 25 (G 27 a.toInt.toNat).toInt.toNat).toInt.toNat b) b) w' :=
  ⟨_, _, m_take hg.1 hg.2 τ ha hc, gp_plk hg (by omega) hb hc⟩
theorem s_lose {G : Gd} {w : Rw} (hg : GP G w) {a : Int32} (ha : 0 ≤ a.toInt ∧ a.toInt < (G 4 0).toInt) (hb : 0 ≤ (G 20 a.toInt.toNat).toInt) (τ : Sig) : ∃ r w', f12_lose a (mr τ w) = some (r, mr τ w') ∧ GP (Glos G a.toInt.toNat) w' := by
  have h0 := hg.2.1
  have an : ((a.toInt.toNat : Nat) : Int) < (G 4 0).toInt := by omega
  have h1 := hg.2.p an
  refine ⟨_, _, m_lose (by omega) (by rw [hg.1.p5 an]; omega), ⟨rg_los hg.1 an (by omega) hg.2.bd, iv_los hg.2 an (by omega)⟩⟩
theorem found_m (τ : Sig) (w0 : Rw) (h0 : GP g0 w0) : ∃ w17, ((bnd (f12_addScentAt 30 (mr τ w0)) fun s2 => bnd (f12_addScentAt 20 s2) fun s3 => bnd (f12_addScentAt 15 s3) fun s4 => bns (f12_makeBed 0 2 0 9 s4) fun _ s5 => bns (f12_makeBed 1 1 5 9 s5) fun _ s6 => bns (f12_makeBed 2 3 0 0 s6) fun _ s7 => bns (f12_makePass 1 0 1 0 s7) fun _ s8 => bns (f12_makePass 3 0 6 0 s8) fun _ s9 => bns (f12_makePass 7 1 3 1 s9) fun _ s10 => bnd (f12_passAll 40 s10) fun s11 => bns (f12_show 0 0 s11) fun _ s12 => bns (f12_show 1 1 s12) fun _ s13 => bns (f12_take 0 2 s13) fun _ s14 => bnd (f12_passAll 2 s14) fun s15 => bns (f12_show 1 0 s15) fun _ s16 => bns (f12_take 1 3 s16) fun _ s17 => bns (f12_lose 0 s17) fun _ s18 => some s18) = some (mr τ w17)) ∧ GP g17_ w17 ∧ Iv g9_ ∧ Iv g10_ ∧ Iv g11_ ∧ Iv g12_ ∧ Iv g13_ ∧ Iv g14_ ∧ Iv g15_ ∧ Iv g16_ := by
  obtain ⟨w1, e1, h1⟩ : ∃ (w1 : Rw), f12_addScentAt 30 (mr τ w0) = some (mr τ w1) ∧ GP g1_ w1 := s_scent h0 (N := 0) (v := 30) (by decide +kernel) (by decide) (by decide) τ
  obtain ⟨w2, e2, h2⟩ : ∃ (w2 : Rw), f12_addScentAt 20 (mr τ w1) = some (mr τ w2) ∧ GP g2_ w2 := s_scent h1 (N := 1) (v := 20) (by decide +kernel) (by decide) (by decide) τ
  obtain ⟨w3, e3, h3⟩ : ∃ (w3 : Rw), f12_addScentAt 15 (mr τ w2) = some (mr τ w3) ∧ GP g3_ w3 := s_scent h2 (N := 2) (v := 15) (by decide +kernel) (by decide) (by decide) τ
  obtain ⟨r4, w4, e4, h4⟩ : ∃ (r4 : Int32) (w4 : Rw), f12_makeBed 0 2 0 9 (mr τ w3) = some (r4, mr τ w4) ∧ GP g4_ w4 := s_bed h3 (N := 0) (a := 0) (b := 2) (c := 0) (d := 9) (by decide +kernel) (by decide) (by decide) τ
  obtain ⟨r5, w5, e5, h5⟩ : ∃ (r5 : Int32) (w5 : Rw), f12_makeBed 1 1 5 9 (mr τ w4) = some (r5, mr τ w5) ∧ GP g5_ w5 := s_bed h4 (N := 1) (a := 1) (b := 1) (c := 5) (d := 9) (by decide +kernel) (by decide) (by decide) τ
  obtain ⟨r6, w6, e6, h6⟩ : ∃ (r6 : Int32) (w6 : Rw), f12_makeBed 2 3 0 0 (mr τ w5) = some (r6, mr τ w6) ∧ GP g6_ w6 := s_bed h5 (N := 2) (a := 2) (b := 3) (c := 0) (d := 0) (by decide +kernel) (by decide) (by decide) τ
  obtain ⟨r7, w7, e7, h7⟩ : ∃ (r7 : Int32) (w7 : Rw), f12_makePass 1 0 1 0 (mr τ w6) = some (r7, mr τ w7) ∧ GP g7_ w7 := s_sell h6 (N := 0) (K := 0) (a := 1) (b := 0) (c := 1) (d := 0) (by decide +kernel) (by decide) (by decide +kernel) (by decide) (by decide) (by decide) (by decide) τ
  obtain ⟨r8, w8, e8, h8⟩ : ∃ (r8 : Int32) (w8 : Rw), f12_makePass 3 0 6 0 (mr τ w7) = some (r8, mr τ w8) ∧ GP g8_ w8 := s_sell h7 (N := 1) (K := 1) (a := 3) (b := 0) (c := 6) (d := 0) (by decide +kernel) (by decide) (by decide +kernel) (by decide) (by decide) (by decide) (by decide) τ
  obtain ⟨r9, w9, e9, h9⟩ : ∃ (r9 : Int32) (w9 : Rw), f12_makePass 7 1 3 1 (mr τ w8) = some (r9, mr τ w9) ∧ GP g9_ w9 := s_sell h8 (N := 2) (K := 2) (a := 7) (b := 1) (c := 3) (d := 1) (by decide +kernel) (by decide) (by decide +kernel) (by decide) (by decide) (by decide) (by decide) τ
  obtain ⟨w10, e10, h10⟩ : ∃ (w10 : Rw), f12_passAll 40 (mr τ w9) = some (mr τ w10) ∧ GP g10_ w10 := s_pass h9 (a := 40) (by decide) (by decide +kernel) τ
  obtain ⟨r11, w11, e11, h11⟩ : ∃ (r11 : Int32) (w11 : Rw), f12_show 0 0 (mr τ w10) = some (r11, mr τ w11) ∧ GP g11_ w11 := s_show h10 (a := 0) (b := 0) (by decide +kernel) (by decide +kernel) τ
  obtain ⟨r12, w12, e12, h12⟩ : ∃ (r12 : Int32) (w12 : Rw), f12_show 1 1 (mr τ w11) = some (r12, mr τ w12) ∧ GP g12_ w12 := s_show h11 (a := 1) (b := 1) (by decide +kernel) (by decide +kernel) τ
  have t13 := s_take h12 (a := 0) (b := 2) (by decide +kernel) (by decide) ck13 τ
  rw [show (0 : Int32).toInt.toNat = 0 from rfl, ck13b.1, ck13b.2] at t13
  obtain ⟨r13, w13, e13, h13⟩ : ∃ (r13 : Int32) (w13 : Rw), f12_take 0 2 (mr τ w12) = some (r13, mr τ w13) ∧ GP g13_ w13 := t13
  obtain ⟨w14, e14, h14⟩ : ∃ (w14 : Rw), f12_passAll 2 (mr τ w13) = some (mr τ w14) ∧ GP g14_ w14 := s_pass h13 (a := 2) (by decide) (by decide +kernel) τ
  obtain ⟨r15, w15, e15, h15⟩ : ∃ (r15 : Int32) (w15 : Rw), f12_show 1 0 (mr τ w14) = some (r15, mr τ w15) ∧ GP g15_ w15 := s_show h14 (a := 1) (b := 0) (by decide +kernel) (by decide +kernel) τ
  have t16 := s_take h15 (a := 1) (b := 3) (by decide +kernel) (by decide) ck16 τ
  rw [show (1 : Int32).toInt.toNat = 1 from rfl, ck16b.1, ck16b.2] at t16
  obtain ⟨r16, w16, e16, h16⟩ : ∃ (r16 : Int32) (w16 : Rw), f12_take 1 3 (mr τ w15) = some (r16, mr τ w16) ∧ GP g16_ w16 := t16
  obtain ⟨r17, w17, e17, h17⟩ : ∃ (r17 : Int32) (w17 : Rw), f12_lose 0 (mr τ w16) = some (r17, mr τ w17) ∧ GP g17_ w17 := s_lose h16 (a := 0) (by decide +kernel) (by decide +kernel) τ
  refine ⟨w17, ?_, h17, h9.2, h10.2, h11.2, h12.2, h13.2, h14.2, h15.2, h16.2⟩
  rw [e1, bnd_eq, e2, bnd_eq, e3, bnd_eq, e4, bns_eq, e5, bns_eq, e6, bns_eq, e7, bns_eq, e8, bns_eq, e9, bns_eq, e10, bnd_eq, e11, bns_eq, e12, bns_eq, e13, bns_eq, e14, bnd_eq, e15, bns_eq, e16, bns_eq, e17, bns_eq]
