/-! gardens that tell the same; the past; calls' values -/
theorem alr_in {β : Type} {n : Nat} {i : Int32} {f : Nat → Option β} (h : 0 ≤ i.toInt ∧ i.toInt < n) : alr n i f = f i.toInt.toNat := by
  unfold alr
  rw [if_neg]
  · rfl
  · rintro (q | q)
    · rw [Int32.lt_iff_toInt_lt] at q; have : (0 : Int32).toInt = 0 := rfl; omega
    · rw [show i.toNatClampNeg = i.toInt.toNat from rfl] at q; omega
theorem AG.rf (G : Gd) : AG G G := ⟨⟨rfl, rfl, rfl, rfl, rfl, rfl, rfl, rfl, rfl, rfl, rfl, rfl, rfl, rfl, rfl⟩, fun _ _ => rfl, fun _ _ => ⟨rfl, rfl, rfl, rfl, rfl, rfl, rfl⟩, fun _ _ => ⟨rfl, rfl, rfl, rfl, rfl, rfl, rfl, rfl, rfl, rfl, rfl, rfl⟩, fun _ _ => ⟨rfl, rfl⟩⟩
theorem AG.i {G H : Gd} (a : AG G H) {i : Nat} (h : (i : Int) < (G 2 0).toInt) : H 7 i = G 7 i := a.2.1 i h
theorem AG.b {G H : Gd} (a : AG G H) {b : Nat} (h : (b : Int) < (G 3 0).toInt) : H 8 b = G 8 b ∧ H 9 b = G 9 b ∧ H 10 b = G 10 b ∧ H 11 b = G 11 b ∧ H 12 b = G 12 b ∧ H 13 b = G 13 b ∧ H 14 b = G 14 b := a.2.2.1 b h
theorem AG.p {G H : Gd} (a : AG G H) {p : Nat} (h : (p : Int) < (G 4 0).toInt) : H 15 p = G 15 p ∧ H 16 p = G 16 p ∧ H 17 p = G 17 p ∧ H 18 p = G 18 p ∧ H 19 p = G 19 p ∧ H 20 p = G 20 p ∧ H 21 p = G 21 p ∧ H 22 p = G 22 p ∧ H 23 p = G 23 p ∧ H 24 p = G 24 p ∧ H 25 p = G 25 p ∧ H 26 p = G 26 p := a.2.2.2.1 p h
theorem AG.k {G H : Gd} (a : AG G H) {k : Nat} (h : (k : Int) < (G 5 0).toInt) : H 27 k = G 27 k ∧ H 28 k = G 28 k := a.2.2.2.2 k h
theorem AG.tr {G H K : Gd} (a : AG G H) (b : AG H K) : AG G K := by
  have s0 := a.1
  refine ⟨?_, fun i hi => ?_, fun q hq => ?_, fun q hq => ?_, fun q hq => ?_⟩
  · have t0 := b.1
    simp only [t0, s0, and_self]
  · rw [b.i (by rw [a.s0]; exact hi), a.i hi]
  · have h1 := a.b hq
    have h2 := b.b (b := q) (by rw [a.s1]; exact hq)
    simp only [h2, h1, and_self]
  · have h1 := a.p hq
    have h2 := b.p (p := q) (by rw [a.s2]; exact hq)
    simp only [h2, h1, and_self]
  · have h1 := a.k hq
    have h2 := b.k (k := q) (by rw [a.s3]; exact hq)
    simp only [h2, h1, and_self]
theorem Jv.ag {G H : Gd} (h : Jv G) (hi : Iv G) (a : AG G H) : Jv H := by
  have h0 := hi.1
  unfold Jv
  rw [a.s1, a.s2, a.s3, a.s11, a.s12]
  refine ⟨h.1, h.2.1, ?_, fun p hp => ?_, fun k hk h28 => ?_, fun b hb => ?_⟩
  · rw [s32_congr (f := H 26) (g := G 26) (fun k hk => (a.p (p := k) (by omega)).2.2.2.2.2.2.2.2.2.2.2)]
    exact h.2.2.1
  · have hp' := hi.p hp
    have hh := h.p hp
    have e := a.p hp
    unfold Jp at hh ⊢
    rw [e.2.2.1, e.2.2.2.2.2.1, e.2.2.2.2.2.2.1, e.2.2.2.2.2.2.2.1, e.2.2.2.2.2.2.2.2.1]
    refine ⟨?_, hh.2⟩
    by_cases c : (G 20 p).toInt = -1
    · exact Or.inl c
    · have ek := a.k (k := (G 20 p).toInt.toNat) (by omega)
      rw [ek.1, ek.2]
      exact hh.1
  · have ek := a.k hk
    rw [ek.2] at h28
    have hk' := hi.k hk
    rw [ek.1, (a.p (p := (G 27 k).toInt.toNat) (by omega)).2.2.2.2.2.1]
    exact h.k hk h28
  · have e := a.b hb
    rw [e.2.1, e.2.2.2.2.2.2]
    exact h.b hb
theorem Kb.ag {n : Nat} {G H : Gd} (h : Kb n G) (a : AG G H) : Kb n H := kb_same h a.s12 a.s10 a.s4
/-- what holds between the calls -/
def Gok (n : Nat) (G : Gd) : Prop := Iv G ∧ Jv G ∧ Kb n G
theorem Gok.ag {n : Nat} {G H : Gd} (h : Gok n G) (a : AG G H) : Gok n H := ⟨h.1.ag a, h.2.1.ag h.1 a, h.2.2.ag a⟩
theorem Gok.le {n m : Nat} {G : Gd} (h : Gok n G) (hm : n ≤ m) : Gok m G := ⟨h.1, h.2.1, h.2.2.le hm⟩
/-- the latest gardens that can be had back -/
def HS (σ : Sig) (l : List Gd) : Prop := ∃ c x : Nat, σ 0 1 1 = Int32.ofNat c ∧ σ 0 1 2 = Int32.ofNat x ∧ c ≤ 8 ∧ x < 8 ∧ l.length ≤ c ∧ ∀ i G, l[i]? = some G → Iv G ∧ AG G (σ ((x + 7 - i) % 8 + 1))
theorem HS.gd {σ : Sig} {l : List Gd} (h : HS σ l) (G : Gd) : HS (xg σ 8 G) l := by
  obtain ⟨c, x, h1, h2, h3, h4, h5, h6⟩ := h
  refine ⟨c, x, h1, h2, h3, h4, h5, fun i K hK => ?_⟩
  have q := h6 i K hK
  rw [show xg σ 8 G ((x + 7 - i) % 8 + 1) = σ ((x + 7 - i) % 8 + 1) from funext fun c => xg_ne σ G c (by omega)]
  exact q
theorem HS.nil {σ : Sig} {l : List Gd} (h : HS σ l) : HS σ [] := by
  obtain ⟨c, x, h1, h2, h3, h4, h5, h6⟩ := h
  exact ⟨c, x, h1, h2, h3, h4, Nat.zero_le _, fun i K hK => by cases hK⟩
theorem HS.two {σ : Sig} {g : Gd} {l : List Gd} (h : HS σ (g :: l)) : HS σ [g] := by
  obtain ⟨c, x, h1, h2, h3, h4, h5, h6⟩ := h
  refine ⟨c, x, h1, h2, h3, h4, by simp only [List.length_cons, List.length_nil] at h5 ⊢; omega, fun i K hK => ?_⟩
  match i, hK with
  | 0, hK => exact h6 0 K hK
  | i + 1, hK => cases hK
theorem rem_67 {σ : Sig} {G : Gd} {l : List Gd} (hs : HS σ l) (hi : Iv G) (hl : l.length ≤ 7) : ∃ σ1, f5_remember 8 (xg σ 8 G) = some (xg σ1 8 G) ∧ HS σ1 (G :: l) ∧ ∀ c, ¬ c = 1 → σ1 0 c = σ 0 c := by
  obtain ⟨c, x, h1, h2, h3, h4, h5, h6⟩ := hs
  have e9 : xg σ 8 G (8 + 1) = G := funext fun c => xg_at σ 8 G c
  obtain ⟨H', q, a⟩ := x_copy (σ := xg σ 8 G) (n := x) (n1 := 8) (H := xg σ 8 G (x + 1)) (by omega) e9 hi
  rw [xg_self] at q
  have e1 : (Int32.ofNat x).toInt = x := oN x (by omega)
  have hq : f5_remember 8 (xg σ 8 G) = some (up (up (xg (xg σ 8 G) x H') 0 1 2 (Int32.ofNat ((x + 1) % 8))) 0 1 1 (Int32.ofNat (min (c + 1) 8))) := by
    unfold f5_remember
    simp only [nm_ap, xg_0, h2]
    rw [alr_in (by omega), e1, Int.toNat_natCast, q]
    simp only [nm_ap, bnd_ap, bns_ap, bnx_ap0, bnx_ap1, bnx_ap2, bnx_ap3, bnx_ap4, gz_0, gz_1, dvd_96, dvd_2, dvd_10000, rmd_96, rmd_8, xg_at, xg_0, mr_at, up_xg, up_mr, narz_0, narz_1, i10, i01, i11, i00, ↓reduceIte, e10, e01, e50, e51, e20, e60, e70, e30, e40, Classical.not_not, not_true_eq_false, not_false_eq_true, h2, oN1, rm8 (show x + 1 < 16 by omega)]
    rw [show up (xg (xg σ 8 G) x H') 0 1 2 (Int32.ofNat ((x + 1) % 8)) 0 1 1 = σ 0 1 1 from by rw [up_self, upd_ne _ _ (by decide), xg_0, xg_0], h1, min8 h3]
  generalize hR : up (up (xg (xg σ 8 G) x H') 0 1 2 (Int32.ofNat ((x + 1) % 8))) 0 1 1 (Int32.ofNat (min (c + 1) 8)) = R at hq
  have r9 : R 9 = G := by
    rw [← hR]
    funext c'
    rw [up_ne _ _ _ (by omega), up_ne _ _ _ (by omega), xg_ne _ _ _ (by omega)]
    exact xg_at σ 8 G c'
  have rx : R (x + 1) = H' := by
    rw [← hR]
    funext c'
    rw [up_ne _ _ _ (by omega), up_ne _ _ _ (by omega), xg_at]
  have ro : ∀ n, ¬ n = x → ¬ n = 8 → R (n + 1) = σ (n + 1) := by
    intro n hn hn8
    rw [← hR]
    funext c'
    rw [up_ne _ _ _ (by omega), up_ne _ _ _ (by omega), xg_ne _ _ _ (by omega), xg_ne _ _ _ (by omega)]
  have rs : xg R 8 G = R := by
    have := xg_self R 8
    rw [show R (8 + 1) = G from r9] at this
    exact this
  refine ⟨R, by rw [rs]; exact hq, ⟨min (c + 1) 8, (x + 1) % 8, ?_, ?_, by omega, by omega, ?_, fun i K hK => ?_⟩, fun c' hc' => ?_⟩
  · rw [← hR, up_self, upd_at]
  · rw [← hR, up_self, upd_ne _ _ (by decide), up_self, upd_at]
  · simp only [List.length_cons]; omega
  · match i, hK with
    | 0, hK =>
      cases hK
      rw [show ((x + 1) % 8 + 7 - 0) % 8 = x by omega, rx]
      exact ⟨hi, a⟩
    | i + 1, hK =>
      have hK' : l[i]? = some K := hK
      have hil := (List.getElem?_eq_some_iff.mp hK').1
      have h := h6 i K hK'
      rw [show ((x + 1) % 8 + 7 - (i + 1)) % 8 = (x + 7 - i) % 8 by omega, ro _ (by omega) (by omega)]
      exact h
  · rw [← hR, up_ne _ _ _ (by omega), up_ne _ _ _ (by omega), xg_0, xg_0]
theorem und_67 {σ : Sig} {G g : Gd} {l : List Gd} (hs : HS σ (g :: l)) : ∃ r σ2 H', f11_undo (xg σ 8 G) = some (r, xg σ2 8 H') ∧ AG g H' ∧ HS σ2 l ∧ ∀ c, ¬ c = 1 → σ2 0 c = σ 0 c := by
  obtain ⟨c, x, h1, h2, h3, h4, h5, h6⟩ := hs
  have hc1 : 1 ≤ c := by simp only [List.length_cons] at h5; omega
  obtain ⟨hg, ha⟩ := h6 0 g rfl
  rw [show (x + 7 - 0) % 8 = (x + 7) % 8 from rfl] at ha
  obtain ⟨H', q, ag⟩ := x_copy (σ := up σ 0 1 2 (Int32.ofNat ((x + 7) % 8))) (n := 8) (n1 := (x + 7) % 8) (G := σ ((x + 7) % 8 + 1)) (H := G) (by omega) (funext fun c' => up_ne _ _ _ (by omega)) (hg.ag ha)
  have qx : f5_takeBack 8 (xg σ 8 G) = some (xg (up (up σ 0 1 2 (Int32.ofNat ((x + 7) % 8))) 0 1 1 (Int32.ofNat (c - 1))) 8 H') := by
    unfold f5_takeBack
    simp only [nm_ap, bnd_ap, bns_ap, bnx_ap0, bnx_ap1, bnx_ap2, bnx_ap3, bnx_ap4, gz_0, gz_1, dvd_96, dvd_2, dvd_10000, rmd_96, rmd_8, xg_at, xg_0, mr_at, up_xg, up_mr, narz_0, narz_1, i10, i01, i11, i00, ↓reduceIte, e10, e01, e50, e51, e20, e60, e70, e30, e40, Classical.not_not, not_true_eq_false, not_false_eq_true, h2, back8 h4, up_xg0]
    rw [show up σ 0 1 2 (Int32.ofNat ((x + 7) % 8)) 0 1 2 = Int32.ofNat ((x + 7) % 8) from by rw [up_self, upd_at]]
    rw [alr_in (by rw [oN _ (by omega)]; omega), oN _ (by omega), Int.toNat_natCast, q]
    simp only [nm_ap, bnd_ap, bns_ap, bnx_ap0, bnx_ap1, bnx_ap2, bnx_ap3, bnx_ap4, gz_0, gz_1, dvd_96, dvd_2, dvd_10000, rmd_96, rmd_8, xg_at, xg_0, mr_at, up_xg, up_mr, narz_0, narz_1, i10, i01, i11, i00, ↓reduceIte, e10, e01, e50, e51, e20, e60, e70, e30, e40, Classical.not_not, not_true_eq_false, not_false_eq_true, up_xg0]
    rw [show up σ 0 1 2 (Int32.ofNat ((x + 7) % 8)) 0 1 1 = Int32.ofNat c from by rw [up_self, upd_ne _ _ (by decide), h1], oNs (by omega)]
  refine ⟨Int32.ofNat (c - 1), up (up σ 0 1 2 (Int32.ofNat ((x + 7) % 8))) 0 1 1 (Int32.ofNat (c - 1)), H', ?_, ha.tr ag, ⟨c - 1, (x + 7) % 8, ?_, ?_, by omega, by omega, by simp only [List.length_cons] at h5; omega, fun i K hK => ?_⟩, fun c' hc' => ?_⟩
  · unfold f11_undo
    simp only [nm_ap, xg_0, h1]
    rw [if_neg (oN_ne0 hc1 (by omega)), qx]
    simp only [bnd_ap, xg_0, up_self, upd_at]
  · rw [up_self, upd_at]
  · rw [up_self, upd_ne _ _ (by decide), up_self, upd_at]
  · have hil := (List.getElem?_eq_some_iff.mp hK).1
    simp only [List.length_cons] at h5
    have h := h6 (i + 1) K hK
    rw [show ((x + 7) % 8 + 7 - i) % 8 = (x + 7 - (i + 1)) % 8 by omega]
    rw [show up (up σ 0 1 2 (Int32.ofNat ((x + 7) % 8))) 0 1 1 (Int32.ofNat (c - 1)) ((x + 7 - (i + 1)) % 8 + 1) = σ ((x + 7 - (i + 1)) % 8 + 1) from funext fun c' => by rw [up_ne _ _ _ (by omega), up_ne _ _ _ (by omega)]]
    exact h
  · rw [up_ne _ _ _ (by omega), up_ne _ _ _ (by omega)]
