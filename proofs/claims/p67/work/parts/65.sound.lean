/-! the law's first question: all is sound, always -/
section SND
variable {σ : Sig} {G : Gd}
theorem u_visitsWith (hi : Iv G) {p : Int32} {k : Nat} (e : p.toInt = k) (hk : (k : Int) < (G 4 0).toInt) : wn (f11_visitsWith p (xg σ 8 G)) = some (G 23 k, xg σ 8 G) := by
  have := wn_ok (v_visitsWith (σ := σ) hi (p := p) (by omega)); rw [e, Int.toNat_natCast] at this; exact this
theorem u_cardOf (hi : Iv G) {p : Int32} {k : Nat} (e : p.toInt = k) (hk : (k : Int) < (G 4 0).toInt) : wn (f11_cardOf p (xg σ 8 G)) = some (G 20 k, xg σ 8 G) := by
  have := wn_ok (v_cardOf (σ := σ) hi (p := p) (by omega)); rw [e, Int.toNat_natCast] at this; exact this
theorem u_firstDay (hi : Iv G) {p : Int32} {k : Nat} (e : p.toInt = k) (hk : (k : Int) < (G 4 0).toInt) : wn (f11_firstDay p (xg σ 8 G)) = some (G 16 k, xg σ 8 G) := by
  have := wn_ok (v_firstDay (σ := σ) hi (p := p) (by omega)); rw [e, Int.toNat_natCast] at this; exact this
theorem u_lastDay (hi : Iv G) {p : Int32} {k : Nat} (e : p.toInt = k) (hk : (k : Int) < (G 4 0).toInt) : wn (f11_lastDay p (xg σ 8 G)) = some (G 16 k + G 17 k - 1, xg σ 8 G) := by
  have := wn_ok (v_lastDay (σ := σ) hi (p := p) (by omega)); rw [e, Int.toNat_natCast] at this; exact this
theorem u_priceOf (hi : Iv G) {p : Int32} {k : Nat} (e : p.toInt = k) (hk : (k : Int) < (G 4 0).toInt) : wn (f11_priceOf p (xg σ 8 G)) = some (G 19 k, xg σ 8 G) := by
  have := wn_ok (v_priceOf (σ := σ) hi (p := p) (by omega)); rw [e, Int.toNat_natCast] at this; exact this
theorem u_owed (hi : Iv G) {p : Int32} {k : Nat} (e : p.toInt = k) (hk : (k : Int) < (G 4 0).toInt) : wn (f11_owed p (xg σ 8 G)) = some (G 26 k, xg σ 8 G) := by
  have := wn_ok (v_owed (σ := σ) hi (p := p) (by omega)); rw [e, Int.toNat_natCast] at this; exact this
theorem u_usedDays (hi : Iv G) {p : Int32} {k : Nat} (e : p.toInt = k) (hk : (k : Int) < (G 4 0).toInt) : wn (f11_usedDays p (xg σ 8 G)) = some (bitc (G 22 k), xg σ 8 G) := by
  have := wn_ok (v_usedDays (σ := σ) hi (p := p) (by omega)); rw [e, Int.toNat_natCast] at this; exact this
theorem u_refundOf (hi : Iv G) {p : Int32} {k : Nat} (e : p.toInt = k) (hk : (k : Int) < (G 4 0).toInt) : wn (f11_refundOf p (xg σ 8 G)) = some (Rd G k, xg σ 8 G) := by
  have := wn_ok (v_refundOf (σ := σ) hi (p := p) (by omega)); rw [e, Int.toNat_natCast] at this; exact this
theorem u_ticksUntilReady (hi : Iv G) {p : Int32} {k : Nat} (e : p.toInt = k) (hk : (k : Int) < (G 4 0).toInt) : wn (f11_ticksUntilReady p (xg σ 8 G)) = some (Wt G k, xg σ 8 G) := by
  have := wn_ok (v_ticksUntilReady (σ := σ) hi (p := p) (by omega)); rw [e, Int.toNat_natCast] at this; exact this
theorem u_isReturned (hi : Iv G) {p : Int32} {k : Nat} (e : p.toInt = k) (hk : (k : Int) < (G 4 0).toInt) : wn (f11_isReturned p (xg σ 8 G)) = some (G 21 k, xg σ 8 G) := by
  have := wn_ok (v_isReturned (σ := σ) hi (p := p) (by omega)); rw [e, Int.toNat_natCast] at this; exact this
theorem u_passOf (hi : Iv G) {p : Int32} {k : Nat} (e : p.toInt = k) (hk : (k : Int) < (G 5 0).toInt) : wn (f11_passOf p (xg σ 8 G)) = some (G 27 k, xg σ 8 G) := by
  have := wn_ok (v_passOf (σ := σ) hi (k := p) (by omega)); rw [e, Int.toNat_natCast] at this; exact this
theorem u_isBlocked (hi : Iv G) {p : Int32} {k : Nat} (e : p.toInt = k) (hk : (k : Int) < (G 5 0).toInt) : wn (f11_isBlocked p (xg σ 8 G)) = some (G 28 k, xg σ 8 G) := by
  have := wn_ok (v_isBlocked (σ := σ) hi (k := p) (by omega)); rw [e, Int.toNat_natCast] at this; exact this
theorem u_visitsTo (hi : Iv G) {p : Int32} {k : Nat} (e : p.toInt = k) (hk : (k : Int) < (G 3 0).toInt) : wn (f11_visitsTo p (xg σ 8 G)) = some (G 13 k, xg σ 8 G) := by
  have := wn_ok (v_visitsTo (σ := σ) hi (b := p) (by omega)); rw [e, Int.toNat_natCast] at this; exact this
theorem u_blooms (hi : Iv G) {p : Int32} {k : Nat} (e : p.toInt = k) (hk : (k : Int) < (G 3 0).toInt) : wn (f11_blooms p (xg σ 8 G)) = some (G 12 k, xg σ 8 G) := by
  have := wn_ok (v_blooms (σ := σ) hi (b := p) (by omega)); rw [e, Int.toNat_natCast] at this; exact this
theorem u_placesLeft (hi : Iv G) {p : Int32} {k : Nat} (e : p.toInt = k) (hk : (k : Int) < (G 3 0).toInt) : wn (f11_placesLeft p (xg σ 8 G)) = some (G 9 k - G 14 k, xg σ 8 G) := by
  have := wn_ok (v_placesLeft (σ := σ) hi (b := p) (by omega)); rw [e, Int.toNat_natCast] at this; exact this
theorem u_isInSeason (hi : Iv G) {p : Int32} {k : Nat} (e : p.toInt = k) (hk : (k : Int) < (G 3 0).toInt) : wn (f11_isInSeason p (xg σ 8 G)) = some (Se G k (Td G), xg σ 8 G) := by
  have := wn_ok (v_isInSeason (σ := σ) hi (b := p) (by omega)); rw [e, Int.toNat_natCast] at this; exact this
theorem u_whyRefused (hi : Iv G) {p q : Int32} {k b : Nat} (e : p.toInt = k) (e2 : q.toInt = b) (hk : (k : Int) < (G 5 0).toInt) (hb : (b : Int) < (G 3 0).toInt) : wn (f11_whyRefused p q (xg σ 8 G)) = some (Rf G k b, xg σ 8 G) := by
  have := wn_ok (v_whyRefused (σ := σ) hi (k := p) (b := q) (by omega) (by omega)); rw [e, e2, Int.toNat_natCast, Int.toNat_natCast] at this; exact this
theorem lt_iff {a b : Int32} : a < b ↔ a.toInt < b.toInt := Int32.lt_iff_toInt_lt
theorem le_iff {a b : Int32} : a ≤ b ↔ a.toInt ≤ b.toInt := Int32.le_iff_toInt_le
/-- pass k's line -/
theorem s_155 (hi : Iv G) (hj : Jv G) {rc : Int32 → Int32 → Int32 → Sig → Option (Int32 × Sig)} {p x1 x2 x4 : Int32} {k : Nat} (e : p.toInt = k) (hk : (k : Int) < (G 4 0).toInt) : f13_isSound_b155 rc x1 x2 p x4 (xg σ 8 G) = rc x1 (x2 + x4) (p + 1) (xg σ 8 G) := by
  have h0 := hi.1
  have h1 := hi.p hk
  have hh := hj.p hk
  have b1 := bitc_pcb (x := G 22 k) (by omega)
  have b2 := (pcb_le hh.2.2.1 14).1
  have b3 := (bitc_in (x := G 22 k) (by omega)).2.2
  have b4 : (bitc (G 22 k)).toInt ≤ (G 23 k).toInt := hh.2.2.2
  have e17 : G 16 k + G 17 k - 1 - G 16 k + 1 = G 17 k := by grind
  have hr := rd_half hi hk
  have hw := wt_0 hi hk
  have er : ((2 : Int32) * Rd G k).toInt = 2 * (Rd G k).toInt := tv_mul rfl rfl (by omega)
  have z0 : (0 : Int32).toInt = 0 := rfl
  have z1 : (1 : Int32).toInt = 1 := rfl
  have z14 : (14 : Int32).toInt = 14 := rfl
  have n1 : ¬ G 17 k < 1 := by rw [lt_iff]; omega
  have n2 : ¬ (14 : Int32) < G 17 k := by rw [lt_iff]; omega
  have n3 : ¬ G 17 k < bitc (G 22 k) := by rw [lt_iff]; omega
  have n4 : ¬ G 23 k < bitc (G 22 k) := by rw [lt_iff]; omega
  have n5 : bitc (G 22 k) = 0 ↔ G 23 k = 0 := by
    rw [← Int32.toInt_inj, ← Int32.toInt_inj, z0]; omega
  have n6 : ¬ G 26 k < 0 := by rw [lt_iff]; omega
  have n7 : ¬ Rd G k < 0 := by rw [lt_iff]; omega
  have n8 : ¬ G 19 k < 2 * Rd G k := by rw [lt_iff, er]; omega
  have n9 : 0 ≤ Wt G k := by rw [le_iff]; omega
  have hend : ∀ t : Int32, f13_isSound_b232 rc x1 x2 p x4 t t (xg σ 8 G) = rc x1 (x2 + x4) (p + 1) (xg σ 8 G) := by
    intro t
    unfold f13_isSound_b232
    rw [if_pos rfl, u_owed hi e hk, bns_eq, if_neg n6, u_refundOf hi e hk, bns_eq, if_neg n7, u_refundOf hi e hk, bns_eq, nm_eq, u_priceOf hi e hk, bns_eq, if_neg n8, u_ticksUntilReady hi e hk, bns_eq, if_pos n9, nm_eq, nm_eq]
  unfold f13_isSound_b155
  rw [u_lastDay hi e hk, bns_eq, u_firstDay hi e hk, bns_eq, nm_eq, nm_eq, e17, if_neg n1, if_neg n2, u_usedDays hi e hk, bns_eq, if_neg n3, u_usedDays hi e hk, bns_eq, u_visitsWith hi e hk, bns_eq, if_neg n4, u_usedDays hi e hk, bns_eq]
  unfold f13_isSound_b219
  rw [u_visitsWith hi e hk]
  simp only [bns_eq]
  by_cases c : G 23 k = 0
  · rw [if_pos (n5.mpr c), if_pos c]; exact hend 1
  · rw [if_neg (fun z => c (n5.mp z)), if_neg c]; exact hend 0
theorem s_131 (hi : Iv G) (hj : Jv G) {rc : Int32 → Int32 → Int32 → Sig → Option (Int32 × Sig)} {p x1 x2 x4 : Int32} {k : Nat} (e : p.toInt = k) (hk : (k : Int) < (G 4 0).toInt) : f13_isSound_b131 rc x1 x2 p x4 (G 20 k) (xg σ 8 G) = rc x1 (x2 + x4) (p + 1) (xg σ 8 G) := by
  have h1 := hi.p hk
  have hh := hj.p hk
  have z1 : (-1 : Int32).toInt = -1 := rfl
  have z0 : (0 : Int32).toInt = 0 := rfl
  unfold f13_isSound_b131
  rw [u_isReturned hi e hk, bns_eq]
  by_cases c : G 21 k = 0
  · rw [if_pos c]; exact s_155 hi hj e hk
  · have c1 : ¬ (G 21 k).toInt = 0 := fun z => c (ti_ext (by rw [z, z0]))
    have c2 : G 20 k = -1 := ti_ext (by rw [z1]; exact hh.2.1 (by omega))
    have c3 : Rd G k = 0 := by unfold Rd; rw [if_neg c1]
    rw [if_neg c, if_pos c2, u_refundOf hi e hk, bns_eq, if_pos c3]
    exact s_155 hi hj e hk
def opn (G : Gd) (k c : Nat) : Int32 := if 0 ≤ (G 20 k).toInt ∧ (G 20 k).toInt < c then 1 else 0
theorem opn_at (hi : Iv G) (hj : Jv G) {k c : Nat} (hk : (k : Int) < (G 4 0).toInt) (hc : (c : Int) < (G 5 0).toInt) : opn G k (c + 1) = opn G k c + if (G 27 c).toInt = k ∧ (G 28 c).toInt = 0 then 1 else 0 := by
  have h1 := hi.p hk
  have h2 := hi.k hc
  have hp := (hj.p hk).1
  have hkk := hj.k hc
  have iff : ((G 27 c).toInt = k ∧ (G 28 c).toInt = 0) ↔ (G 20 k).toInt = c := by
    constructor
    · rintro ⟨a, b⟩
      have := hkk b
      rw [a, Int.toNat_natCast] at this
      exact this
    · intro a
      rcases hp with h | h
      · omega
      · rw [a, Int.toNat_natCast] at h
        exact ⟨h.2, h.1⟩
  simp only [iff]
  unfold opn
  by_cases d : (G 20 k).toInt = c
  · rw [if_pos (by omega), if_neg (by omega), if_pos d]; rfl
  · rw [if_neg d]
    by_cases d2 : 0 ≤ (G 20 k).toInt ∧ (G 20 k).toInt < c
    · rw [if_pos (by omega), if_pos d2]; rfl
    · rw [if_neg (by omega), if_neg d2]; rfl
theorem s_37 (hi : Iv G) (hj : Jv G) {rc : Int32 → Int32 → Int32 → Sig → Option (Int32 × Sig)} {p x1 x2 : Int32} {k : Nat} (e : p.toInt = k) (hk : (k : Int) < (G 4 0).toInt) : ∀ (fu c : Nat), c ≤ (G 5 0).toInt.toNat → (G 5 0).toInt.toNat < fu + c → f13_isSound_b37 rc fu x1 x2 p (opn G k c) (Int32.ofNat c) (xg σ 8 G) = rc x1 (x2 + if 0 ≤ (G 20 k).toInt then 1 else 0) (p + 1) (xg σ 8 G) := by
  have h0 := hi.1
  have h1 := hi.p hk
  have hh := hj.p hk
  have z1 : (-1 : Int32).toInt = -1 := rfl
  have z0 : (0 : Int32).toInt = 0 := rfl
  intro fu
  induction fu with
  | zero => intro c a b; omega
  | succ fu ih =>
    intro c a b
    have ec := oN c (by omega)
    rw [f13_isSound_b37, v_cardCount, bnd_eq]
    by_cases d : c = (G 5 0).toInt.toNat
    · rw [if_pos (by rw [le_iff, ec]; omega), u_cardOf hi e hk, bns_eq]
      by_cases d2 : G 20 k = -1
      · have d3 : (G 20 k).toInt = -1 := by rw [d2, z1]
        have o : opn G k c = 0 := if_neg (by omega)
        rw [if_pos d2, o, if_neg (by omega)]
        unfold f13_isSound_b101
        rw [if_pos rfl, if_pos d2]
        exact s_131 hi hj e hk
      · have d3 : ¬ (G 20 k).toInt = -1 := fun z => d2 (ti_ext (by rw [z, z1]))
        have o : opn G k c = 1 := if_pos (by omega)
        have hq := hh.1
        have e20 : (G 20 k).toInt = ((G 20 k).toInt.toNat : Nat) := by omega
        have hk2 : (((G 20 k).toInt.toNat : Nat) : Int) < (G 5 0).toInt := by omega
        have w1 : G 27 (G 20 k).toInt.toNat = p := ti_ext (by omega)
        have w2 : G 28 (G 20 k).toInt.toNat = 0 := ti_ext (by omega)
        rw [if_neg d2, o, if_pos (by omega)]
        unfold f13_isSound_b101
        rw [if_pos rfl, if_neg d2, u_passOf hi e20 hk2, bns_eq, if_pos w1, u_isBlocked hi e20 hk2, bns_eq, if_pos w2]
        exact s_131 hi hj e hk
    · have hc : (c : Int) < (G 5 0).toInt := by omega
      have h2 := hi.k hc
      have op := opn_at hi hj hk hc
      have q := ih (c + 1) (by omega) (by omega)
      rw [if_neg (by rw [le_iff, ec]; omega), u_passOf hi ec hc, bns_eq]
      by_cases d2 : G 27 c = p
      · have d3 : (G 27 c).toInt = k := by rw [d2, e]
        rw [if_pos d2, u_isBlocked hi ec hc, bns_eq]
        by_cases d4 : G 28 c = 0
        · rw [if_pos d4]
          unfold f13_isSound_b72
          rw [nm_eq, nm_eq, oN1]
          rw [if_pos ⟨d3, by rw [d4, z0]⟩] at op
          rw [← op]
          exact q
        · rw [if_neg d4]
          unfold f13_isSound_b71 f13_isSound_b72
          rw [nm_eq, nm_eq, oN1]
          rw [if_neg (fun z => d4 (ti_ext (by rw [z.2, z0])))] at op
          rw [← op]
          exact q
      · rw [if_neg d2]
        unfold f13_isSound_b71 f13_isSound_b72
        rw [nm_eq, nm_eq, oN1]
        rw [if_neg (fun z => d2 (ti_ext (by rw [z.1, e])))] at op
        rw [← op]
        exact q
theorem s_386 (t : Int32) (σ : Sig) : f13_isSound_b386 t t σ = some (1, σ) := by unfold f13_isSound_b386; rw [if_pos rfl]
theorem s_291 (hi : Iv G) (hj : Jv G) (h63 : 0 ≤ (G 6 3).toInt) (h61 : 0 ≤ (G 6 1).toInt) {x2 : Int32} (hx2 : x2.toInt ≤ (G 5 0).toInt) : ∀ (fu c : Nat), c ≤ (G 3 0).toInt.toNat → (G 3 0).toInt.toNat < fu + c → f13_isSound_b291 fu (s32 (G 23) (G 4 0).toInt.toNat - s32 (G 13) c) x2 (Int32.ofNat c) (xg σ 8 G) = some (1, xg σ 8 G) := by
  have h0 := hi.1
  have z0 : (0 : Int32).toInt = 0 := rfl
  have z50 : (50 : Int32).toInt = 50 := rfl
  intro fu
  induction fu with
  | zero => intro c a b; omega
  | succ fu ih =>
    intro c a b
    have ec := oN c (by omega)
    rw [f13_isSound_b291, v_bedCount, bnd_eq]
    by_cases d : c = (G 3 0).toInt.toNat
    · rw [if_pos (by rw [le_iff, ec]; omega), d, ← sums_eq hi, if_pos (Int32.sub_self _), v_cardCount, bnd_eq, if_neg (by rw [lt_iff]; omega), v_finesPaid, bnd_eq, if_neg (by rw [lt_iff]; omega), v_refunds, bnd_eq, if_neg (by rw [lt_iff]; omega)]
      obtain ⟨r, q, hr⟩ := v_ticksUntilOpen (σ := σ) (G := G)
      rw [q, bnd_eq, v_isOpen, bnd_eq]
      by_cases ho : Opn G (Tk G) = 0
      · rw [if_pos ho, bnd_eq]
        exact s_386 _ _
      · rw [if_neg ho, hr ho]
        exact s_386 _ _
    · have hc : (c : Int) < (G 3 0).toInt := by omega
      have h1 := hi.b hc
      have hb := hj.b hc
      have q := ih (c + 1) (by omega) (by omega)
      have e9 : (G 9 c - G 14 c).toInt = (G 9 c).toInt - (G 14 c).toInt := tv_sub rfl rfl (by omega)
      rw [if_neg (by rw [le_iff, ec]; omega), u_visitsTo hi ec hc, bns_eq, nm_eq, u_blooms hi ec hc, bns_eq, if_neg (by rw [lt_iff]; omega), u_blooms hi ec hc, bns_eq, if_neg (by rw [lt_iff]; omega), u_placesLeft hi ec hc, bns_eq, if_pos (by rw [le_iff, e9]; omega), nm_eq, oN1]
      rw [show s32 (G 23) (G 4 0).toInt.toNat - s32 (G 13) c - G 13 c = s32 (G 23) (G 4 0).toInt.toNat - s32 (G 13) (c + 1) by rw [s32]; grind]
      exact q
def nfr (G : Gd) : Nat → Nat
  | 0 => 0
  | k + 1 => nfr G k + if 0 ≤ (G 20 k).toInt then 1 else 0
theorem nfr_le (G : Gd) : ∀ k, nfr G k ≤ k
  | 0 => Nat.le_refl _
  | k + 1 => by have := nfr_le G k; rw [nfr]; split <;> omega
theorem s_15 (hi : Iv G) (hj : Jv G) (h63 : 0 ≤ (G 6 3).toInt) (h61 : 0 ≤ (G 6 1).toInt) : ∀ (fu k : Nat), k ≤ (G 4 0).toInt.toNat → (G 4 0).toInt.toNat < fu + k → f13_isSound_b15 fu (s32 (G 23) k) (Int32.ofNat (nfr G k)) (Int32.ofNat k) (xg σ 8 G) = some (1, xg σ 8 G) := by
  have h0 := hi.1
  have hjj := hj.2.1
  intro fu
  induction fu with
  | zero => intro k a b; omega
  | succ fu ih =>
    intro k a b
    have ek := oN k (by omega)
    rw [f13_isSound_b15, v_passCount, bnd_eq]
    by_cases d : k = (G 4 0).toInt.toNat
    · have hn := nfr_le G k
      have q := s_291 (σ := σ) hi hj h63 h61 (x2 := Int32.ofNat (nfr G k)) (by rw [oN _ (by omega)]; omega) FU 0 (Nat.zero_le _) (by unfold FU; omega)
      rw [if_pos (by rw [le_iff, ek]; omega)]
      rw [show s32 (G 13) 0 = 0 from rfl, Int32.sub_zero, ← d] at q
      exact q
    · have hk : (k : Int) < (G 4 0).toInt := by omega
      rw [if_neg (by rw [le_iff, ek]; omega), u_visitsWith hi ek hk, bns_eq, nm_eq]
      have q := s_37 (σ := σ) hi hj (rc := f13_isSound_b15 fu) (x1 := s32 (G 23) k + G 23 k) (x2 := Int32.ofNat (nfr G k)) ek hk FU 0 (Nat.zero_le _) (by unfold FU; omega)
      rw [show opn G k 0 = 0 from if_neg (by omega), show Int32.ofNat 0 = 0 from rfl] at q
      rw [q, oN1]
      have i := ih (k + 1) (by omega) (by omega)
      rw [nfr, s32] at i
      by_cases c : 0 ≤ (G 20 k).toInt
      · rw [if_pos c] at i ⊢
        rw [oN1]
        exact i
      · rw [if_neg c] at i ⊢
        rw [Int32.add_zero]
        exact i
theorem sound_67 {n : Nat} (h : Gok n G) : f13_isSound (xg σ 8 G) = some (1, xg σ 8 G) := by
  have h0 := h.1.1
  unfold f13_isSound
  rw [v_violations h.1 h.2.1, bnd_eq, if_pos rfl]
  exact s_15 h.1 h.2.1 h.2.2.1 h.2.2.2.2.1 FU 0 (Nat.zero_le _) (by unfold FU; omega)
end SND
