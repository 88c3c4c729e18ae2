/-! what the property needs of a garden beyond Iv: used days as bits; each pass's card; the fines' sum -/
def pcb (n : Nat) : Nat → Nat
  | 0 => 0
  | k + 1 => pcb n k + (n.testBit k).toNat
theorem pcb_or (n d : Nat) : ∀ k, pcb (n ||| 2 ^ d) k ≤ pcb n k + (if d < k then 1 else 0) := by
  intro k
  induction k with
  | zero => exact Nat.zero_le _
  | succ k ih =>
    simp only [pcb, Nat.testBit_or, Nat.testBit_two_pow]
    by_cases e : d = k
    · subst e
      rw [if_neg (by omega)] at ih
      rw [if_pos (by omega)]
      have := Bool.toNat_le (n.testBit d || decide (d = d))
      omega
    · have e2 : decide (d = k) = false := decide_eq_false e
      rw [e2, Bool.or_false]
      by_cases h : d < k
      · rw [if_pos h] at ih
        rw [if_pos (by omega)]
        omega
      · rw [if_neg h] at ih
        rw [if_neg (by omega)]
        omega
theorem pcb_le {n j : Nat} (h : n < 2 ^ j) : ∀ k, pcb n k ≤ j ∧ pcb n k ≤ k := by
  intro k
  induction k with
  | zero => exact ⟨Nat.zero_le _, Nat.le_refl _⟩
  | succ k ih =>
    have hb := Bool.toNat_le (n.testBit k)
    simp only [pcb]
    by_cases e : k < j
    · omega
    · have e2 : n.testBit k = false := Nat.testBit_lt_two_pow (Nat.lt_of_lt_of_le h (Nat.pow_le_pow_right (by decide) (by omega)))
      rw [e2]
      simp only [Bool.toNat_false, Nat.add_zero]
      omega
theorem bN_pcb : ∀ a : Fin 128, ∀ b : Fin 128, bN (a.1 * 128 + b.1) = pcb (a.1 * 128 + b.1) 14 := by decide +kernel
theorem ti_nat {x : Int32} (h : 0 ≤ x.toInt) : x = Int32.ofNat x.toInt.toNat := ti_ext (by rw [oN _ (by have := x.toInt_lt; omega)]; omega)
theorem bitc_pcb {x : Int32} (h : 0 ≤ x.toInt ∧ x.toInt < 16384) : (bitc x).toInt = pcb x.toInt.toNat 14 := by
  have e := ti_nat h.1
  have q := bitc_nat (n := x.toInt.toNat) (by omega)
  rw [← e] at q
  have b := bN_pcb ⟨x.toInt.toNat / 128, by omega⟩ ⟨x.toInt.toNat % 128, by omega⟩
  have e2 : x.toInt.toNat / 128 * 128 + x.toInt.toNat % 128 = x.toInt.toNat := by omega
  simp only [e2] at b
  have l := (bN_at (n := x.toInt.toNat) (by omega)).2.1
  rw [q, oN _ (by omega), b]
theorem us_nat {u d : Int32} (hu : 0 ≤ u.toInt ∧ u.toInt < 16384) (hd : 0 ≤ d.toInt ∧ d.toInt ≤ 13) : u ||| (1 : Int32) <<< (d &&& 31) = Int32.ofNat (u.toInt.toNat ||| 2 ^ d.toInt.toNat) := by
  have eu : u = Int32.ofNat u.toInt.toNat := ti_nat hu.1
  have ed : d = Int32.ofNat d.toInt.toNat := ti_nat hd.1
  have q := pow_dec ⟨d.toInt.toNat, by omega⟩
  rw [← or_nat, ← eu, ← q]
  dsimp only
  rw [← ed]
theorem us_lt {u d : Int32} {k : Nat} (hk : k ≤ 14) (hu : 0 ≤ u.toInt) (h1 : u.toInt.toNat < 2 ^ k) (hd : 0 ≤ d.toInt ∧ d.toInt < k) : (u ||| (1 : Int32) <<< (d &&& 31)).toInt.toNat < 2 ^ k ∧ (bitc (u ||| (1 : Int32) <<< (d &&& 31))).toInt ≤ (bitc u).toInt + 1 := by
  have h14 : 2 ^ k ≤ 2 ^ 14 := Nat.pow_le_pow_right (by decide) hk
  have hu2 : 0 ≤ u.toInt ∧ u.toInt < 16384 := by omega
  have hd2 : 0 ≤ d.toInt ∧ d.toInt ≤ 13 := by omega
  have e := us_nat hu2 hd2
  have hp : 2 ^ d.toInt.toNat < 2 ^ k := Nat.pow_lt_pow_right (by decide) (by omega)
  have h3 := Nat.or_lt_two_pow (x := u.toInt.toNat) (y := 2 ^ d.toInt.toNat) (n := k) h1 hp
  have en : (u ||| (1 : Int32) <<< (d &&& 31)).toInt = ((u.toInt.toNat ||| 2 ^ d.toInt.toNat : Nat) : Int) := by rw [e, oN _ (by omega)]
  have b1 := bitc_pcb hu2
  have b2 := bitc_pcb (x := u ||| (1 : Int32) <<< (d &&& 31)) (by omega)
  have o := pcb_or u.toInt.toNat d.toInt.toNat 14
  rw [if_pos (by omega)] at o
  rw [show (u ||| (1 : Int32) <<< (d &&& 31)).toInt.toNat = u.toInt.toNat ||| 2 ^ d.toInt.toNat by omega] at b2 ⊢
  omega
theorem s32_out {f : Nat → Int32} {n k : Nat} {x : Int32} (h : n ≤ k) : s32 (upd f k x) n = s32 f n := s32_congr (fun j hj => upd_ne _ _ (by omega))
theorem s32_upd {f : Nat → Int32} {n k : Nat} {x : Int32} (h : k < n) : s32 (upd f k x) n = s32 f n - f k + x := by
  induction n with
  | zero => omega
  | succ n ih =>
    simp only [s32]
    by_cases e : k = n
    · subst e
      rw [upd_at, s32_out (Nat.le_refl _)]
      grind
    · rw [ih (by omega), upd_ne _ _ (fun z => e z.symm)]
      grind
/-- one pass of what is said of all -/
def Jp (a17 a20 a21 a22 a23 a27 a28 : Nat → Int32) (p : Nat) : Prop :=
  ((a20 p).toInt = -1 ∨ ((a28 (a20 p).toInt.toNat).toInt = 0 ∧ (a27 (a20 p).toInt.toNat).toInt = p))
  ∧ ((a21 p).toInt = 1 → (a20 p).toInt = -1)
  ∧ (a22 p).toInt.toNat < 2 ^ (a17 p).toInt.toNat
  ∧ (bitc (a22 p)).toInt ≤ (a23 p).toInt
def Jc (n3 n4 n5 f2 f3 : Int32) (a17 a20 a21 a22 a23 a26 a27 a28 a9 a14 : Nat → Int32) : Prop :=
  1 ≤ n3.toInt ∧ n4.toInt ≤ n5.toInt ∧ f2 = f3 + s32 a26 n4.toInt.toNat
  ∧ (∀ p : Nat, (p : Int) < n4.toInt → Jp a17 a20 a21 a22 a23 a27 a28 p)
  ∧ (∀ k : Nat, (k : Int) < n5.toInt → (a28 k).toInt = 0 → (a20 (a27 k).toInt.toNat).toInt = k)
  ∧ (∀ b : Nat, (b : Int) < n3.toInt → (a14 b).toInt ≤ (a9 b).toInt)
def Jv (G : Gd) : Prop := Jc (G 3 0) (G 4 0) (G 5 0) (G 6 2) (G 6 3) (G 17) (G 20) (G 21) (G 22) (G 23) (G 26) (G 27) (G 28) (G 9) (G 14)
theorem Jv.p {G : Gd} (h : Jv G) {p : Nat} (hp : (p : Int) < (G 4 0).toInt) : Jp (G 17) (G 20) (G 21) (G 22) (G 23) (G 27) (G 28) p := h.2.2.2.1 p hp
theorem Jv.k {G : Gd} (h : Jv G) {k : Nat} (hk : (k : Int) < (G 5 0).toInt) (h2 : (G 28 k).toInt = 0) : (G 20 (G 27 k).toInt.toNat).toInt = k := h.2.2.2.2.1 k hk h2
theorem Jv.b {G : Gd} (h : Jv G) {b : Nat} (hb : (b : Int) < (G 3 0).toInt) : (G 14 b).toInt ≤ (G 9 b).toInt := h.2.2.2.2.2 b hb
-- what doesn't touch it
theorem jv_wlk {G : Gd} (h : Jv G) (a b : Int32) : Jv (Gwlk G a b) := h
theorem jv_rate {G : Gd} (h : Jv G) (a : Int32) : Jv (p2 G 2 1 a) := h
theorem jv_pause {G : Gd} (h : Jv G) (a : Int32) : Jv (p2 G 0 6 a) := h
theorem jv_price {G : Gd} (h : Jv G) (i : Nat) (a : Int32) : Jv (p2 G 7 i a) := h
theorem jv_65 {G : Gd} (h : Jv G) (v : Int32) : Jv (p2 G 6 5 v) := h
theorem jv_61 {G : Gd} (h : Jv G) (v : Int32) : Jv (p2 G 6 1 v) := h
theorem jv_sc {G : Gd} (h : Jv G) (N : Nat) (v : Int32) : Jv (Gsc G N v) := h
-- the changes
theorem jv_pay {G : Gd} (hj : Jv G) {p : Nat} (hp : (p : Int) < (G 4 0).toInt) (a : Int32) : Jv (Gpay G p a) := by
  show Jc (G 3 0) (G 4 0) (G 5 0) (G 6 2) (G 6 3 + a) (G 17) (G 20) (G 21) (G 22) (G 23) (upd (G 26) p (G 26 p - a)) (G 27) (G 28) (G 9) (G 14)
  refine ⟨hj.1, hj.2.1, ?_, hj.2.2.2.1, hj.2.2.2.2⟩
  have h := hj.2.2.1
  rw [s32_upd (by omega), h]
  grind
theorem jv_plk {G : Gd} (hj : Jv G) {p : Nat} (hp : (p : Int) < (G 4 0).toInt) (b : Nat) (f bl : Int32) : Jv (Gplk G p b f bl) := by
  show Jc (G 3 0) (G 4 0) (G 5 0) (G 6 2 + f) (G 6 3) (G 17) (G 20) (G 21) (G 22) (G 23) (upd (G 26) p (G 26 p + f)) (G 27) (G 28) (G 9) (G 14)
  refine ⟨hj.1, hj.2.1, ?_, hj.2.2.2.1, hj.2.2.2.2⟩
  have h := hj.2.2.1
  rw [s32_upd (by omega), h]
  grind
theorem jv_bed {G : Gd} (hi : Iv G) (hj : Jv G) {N : Nat} (hN : (G 3 0).toInt = N) (hN8 : N < 8) {sc pl f l : Int32} (hpl : 0 ≤ pl.toInt) : Jv (Gbed G N sc pl f l) := by
  have en : (G 3 0 + 1).toInt = N + 1 := tv_add hN rfl (by omega)
  have e0 : (0 : Int32).toInt = 0 := rfl
  show Jc (G 3 0 + 1) (G 4 0) (G 5 0) (G 6 2) (G 6 3) (G 17) (G 20) (G 21) (G 22) (G 23) (G 26) (G 27) (G 28) (upd (G 9) N pl) (upd (G 14) N 0)
  refine ⟨by omega, hj.2.1, hj.2.2.1, hj.2.2.2.1, hj.2.2.2.2.1, fun b hb => ?_⟩
  rw [en] at hb
  by_cases e : b = N
  · rw [e, upd_at, upd_at, e0]; exact hpl
  · rw [upd_ne _ _ e, upd_ne _ _ e]; exact hj.b (by omega)
theorem jv_tk {G : Gd} (hi : Iv G) (hj : Jv G) (t : Int32) : Jv (Gtk G t) := by
  show Jc (G 3 0) (G 4 0) (G 5 0) (G 6 2) (G 6 3) (G 17) (G 20) (G 21) (G 22) (G 23) (G 26) (G 27) (G 28) (G 9) (zz (G 3 0).toInt.toNat (G 14))
  refine ⟨hj.1, hj.2.1, hj.2.2.1, hj.2.2.2.1, hj.2.2.2.2.1, fun b hb => ?_⟩
  have h := hi.b hb
  have z : zz (G 3 0).toInt.toNat (G 14) b = 0 := if_pos (by omega)
  rw [z, show (0 : Int32).toInt = 0 from rfl]
  omega
theorem jv_los {G : Gd} (hi : Iv G) (hj : Jv G) {p : Nat} (hp : (p : Int) < (G 4 0).toInt) (hc : 0 ≤ (G 20 p).toInt) : Jv (Glos G p) := by
  have hpp := (hj.p hp).1
  have em : (-1 : Int32).toInt = -1 := rfl
  have e1 : (1 : Int32).toInt = 1 := rfl
  have h27 : (G 27 (G 20 p).toInt.toNat).toInt = p := by omega
  show Jc (G 3 0) (G 4 0) (G 5 0) (G 6 2) (G 6 3) (G 17) (upd (G 20) p (-1)) (G 21) (G 22) (G 23) (G 26) (G 27) (upd (G 28) (G 20 p).toInt.toNat 1) (G 9) (G 14)
  refine ⟨hj.1, hj.2.1, hj.2.2.1, fun q hq => ?_, fun k hk h28 => ?_, hj.2.2.2.2.2⟩
  · have hh := hj.p hq
    refine ⟨?_, ?_, hh.2.2.1, hh.2.2.2⟩
    · by_cases e : q = p
      · left; rw [e, upd_at, em]
      · rw [upd_ne _ _ e]
        rcases hh.1 with h | h
        · exact Or.inl h
        · right
          refine ⟨?_, h.2⟩
          rw [upd_ne]
          · exact h.1
          · intro e2
            rw [e2] at h
            omega
    · intro h21
      by_cases e : q = p
      · rw [e, upd_at, em]
      · rw [upd_ne _ _ e]; exact hh.2.1 h21
  · by_cases e : k = (G 20 p).toInt.toNat
    · rw [e, upd_at, e1] at h28
      omega
    · rw [upd_ne _ _ e] at h28
      have h := hj.k hk h28
      have hb := hi.k hk
      rw [upd_ne]
      · exact h
      · intro e2
        rw [e2] at h
        omega
theorem jv_ret {G : Gd} (hj : Jv G) {p : Nat} (hc : (G 20 p).toInt = -1) : Jv (p2 G 21 p 1) := by
  show Jc (G 3 0) (G 4 0) (G 5 0) (G 6 2) (G 6 3) (G 17) (G 20) (upd (G 21) p 1) (G 22) (G 23) (G 26) (G 27) (G 28) (G 9) (G 14)
  refine ⟨hj.1, hj.2.1, hj.2.2.1, fun q hq => ?_, hj.2.2.2.2⟩
  have hh := hj.p hq
  refine ⟨hh.1, fun h => ?_, hh.2.2.1, hh.2.2.2⟩
  by_cases e : q = p
  · rw [e]; exact hc
  · rw [upd_ne _ _ e] at h
    exact hh.2.1 h
theorem jv_crd {G : Gd} (hi : Iv G) (hj : Jv G) {p K : Nat} (hp : (p : Int) < (G 4 0).toInt) (hK : (G 5 0).toInt = K) (hK5 : K < 50) {pi : Int32} (hpi : pi.toInt = p) (hc : (G 20 p).toInt = -1) (hr : (G 21 p).toInt = 0) : Jv (Gcrd G p K pi) := by
  have ek : (G 5 0 + 1).toInt = K + 1 := tv_add hK rfl (by omega)
  have e0 : (0 : Int32).toInt = 0 := rfl
  have eG : (G 5 0).toInt.toNat = K := by omega
  have hpn : pi.toInt.toNat = p := by omega
  show Jc (G 3 0) (G 4 0) (G 5 0 + 1) (G 6 2) (G 6 3) (G 17) (upd (G 20) p (G 5 0)) (G 21) (G 22) (G 23) (G 26) (upd (G 27) K pi) (upd (G 28) K 0) (G 9) (G 14)
  refine ⟨hj.1, by have := hj.2.1; omega, hj.2.2.1, fun q hq => ?_, fun k hk h28 => ?_, hj.2.2.2.2.2⟩
  · have hh := hj.p hq
    have hb := hi.p hq
    refine ⟨?_, ?_, hh.2.2.1, hh.2.2.2⟩
    · by_cases e : q = p
      · right
        rw [e, upd_at, eG, upd_at, upd_at, e0, hpi]
        exact ⟨rfl, rfl⟩
      · rw [upd_ne _ _ e]
        rcases hh.1 with h | h
        · exact Or.inl h
        · by_cases e1 : (G 20 q).toInt = -1
          · exact Or.inl e1
          · right
            rw [upd_ne _ _ (by omega), upd_ne _ _ (by omega)]
            exact h
    · intro h21
      by_cases e : q = p
      · rw [e] at h21; omega
      · rw [upd_ne _ _ e]; exact hh.2.1 h21
  · rw [ek] at hk
    by_cases e : k = K
    · rw [e, upd_at, hpn, upd_at, hK]
    · rw [upd_ne _ _ e] at h28 ⊢
      have h := hj.k (k := k) (by omega) h28
      have hb := hi.k (k := k) (by omega)
      rw [upd_ne]
      · exact h
      · intro e2
        rw [e2] at h
        omega
theorem jv_sel {G : Gd} (hi : Iv G) (hj : Jv G) {P K : Nat} (hP : (G 4 0).toInt = P) (hK : (G 5 0).toInt = K) (hP3 : P < 30) (hK5 : K < 50) {set day days kind pr : Int32} : Jv (Gsel G P K set day days kind pr) := by
  have en : (G 4 0 + 1).toInt = P + 1 := tv_add hP rfl (by omega)
  have ek : (G 5 0 + 1).toInt = K + 1 := tv_add hK rfl (by omega)
  have e0 : (0 : Int32).toInt = 0 := rfl
  have eG : (G 5 0).toInt.toNat = K := by omega
  have e4 : (G 4 0).toInt.toNat = P := by omega
  have b0 : (bitc 0).toInt = 0 := by decide +kernel
  have h2 := hj.2.1
  have h3 := hj.2.2.1
  show Jc (G 3 0) (G 4 0 + 1) (G 5 0 + 1) (G 6 2) (G 6 3) (upd (G 17) P days) (upd (upd (G 20) P (-1)) P (G 5 0)) (upd (G 21) P 0) (upd (G 22) P 0) (upd (G 23) P 0) (upd (G 26) P 0) (upd (G 27) K (G 4 0)) (upd (G 28) K 0) (G 9) (G 14)
  refine ⟨hj.1, by omega, ?_, fun q hq => ?_, fun k hk h28 => ?_, hj.2.2.2.2.2⟩
  · rw [h3, en, show ((P : Int) + 1).toNat = P + 1 by omega, e4]
    simp only [s32]
    rw [upd_at, s32_out (Nat.le_refl _), Int32.add_zero]
  · rw [en] at hq
    by_cases e : q = P
    · subst e
      unfold Jp
      simp only [upd_at]
      rw [eG, upd_at, upd_at, e0, hP, b0]
      refine ⟨Or.inr ⟨rfl, rfl⟩, fun h => absurd h (by decide), ?_, Int.le_refl _⟩
      exact Nat.pow_pos (by decide)
    · have hh := hj.p (p := q) (by omega)
      have hb := hi.p (p := q) (by omega)
      unfold Jp
      rw [upd_ne _ _ e, upd_ne _ _ e, upd_ne _ _ e, upd_ne _ _ e, upd_ne _ _ e, upd_ne _ _ e]
      refine ⟨?_, hh.2.1, hh.2.2.1, hh.2.2.2⟩
      rcases hh.1 with h | h
      · exact Or.inl h
      · by_cases e1 : (G 20 q).toInt = -1
        · exact Or.inl e1
        · right
          rw [upd_ne _ _ (by omega), upd_ne _ _ (by omega)]
          exact h
  · rw [ek] at hk
    by_cases e : k = K
    · rw [e, upd_at, e4, upd_at, hK]
    · rw [upd_ne _ _ e] at h28 ⊢
      have h := hj.k (k := k) (by omega) h28
      have hb := hi.k (k := k) (by omega)
      rw [upd_ne _ _ (by omega), upd_ne _ _ (by omega)]
      exact h
theorem jv_ren {G : Gd} (hj : Jv G) {p : Nat} {set days d : Int32} (hd : (G 17 p).toInt ≤ days.toInt) : Jv (Gren G p set days d) := by
  show Jc (G 3 0) (G 4 0) (G 5 0) (G 6 2) (G 6 3) (upd (G 17) p days) (G 20) (G 21) (G 22) (G 23) (G 26) (G 27) (G 28) (G 9) (G 14)
  refine ⟨hj.1, hj.2.1, hj.2.2.1, fun q hq => ?_, hj.2.2.2.2⟩
  have hh := hj.p hq
  refine ⟨hh.1, hh.2.1, ?_, hh.2.2.2⟩
  by_cases e : q = p
  · rw [e, upd_at]
    rw [e] at hh
    exact Nat.lt_of_lt_of_le hh.2.2.1 (Nat.pow_le_pow_right (by decide) (by omega))
  · rw [upd_ne _ _ e]
    exact hh.2.2.1
theorem jv_vis {G : Gd} (hi : Iv G) (hj : Jv G) {p b : Nat} (hp : (p : Int) < (G 4 0).toInt) {bi : Int32} (h3 : (G 14 b).toInt < (G 9 b).toInt) (h1 : (G 16 p).toInt ≤ (Td G).toInt ∧ (Td G).toInt < (G 16 p).toInt + (G 17 p).toInt) : Jv (Gvis G p b bi) := by
  have hb := hi.p hp
  have ht := Td_in hi
  have hv := vis_sm hi hp
  have hh := hj.p hp
  have ed : (Td G - G 16 p).toInt = (Td G).toInt - (G 16 p).toInt := tv_sub rfl rfl (by omega)
  have e23 : (G 23 p + 1).toInt = (G 23 p).toInt + 1 := tv_add rfl rfl (by omega)
  have hu := us_lt (u := G 22 p) (d := Td G - G 16 p) (k := (G 17 p).toInt.toNat) (by omega) (by omega) hh.2.2.1 (by omega)
  show Jc (G 3 0) (G 4 0) (G 5 0) (G 6 2) (G 6 3) (G 17) (G 20) (G 21) (upd (G 22) p (G 22 p ||| (1 : Int32) <<< ((Td G - G 16 p) &&& 31))) (upd (G 23) p (G 23 p + 1)) (G 26) (G 27) (G 28) (G 9) (upd (G 14) b (G 14 b + 1))
  refine ⟨hj.1, hj.2.1, hj.2.2.1, fun q hq => ?_, hj.2.2.2.2.1, fun b9 hb9 => ?_⟩
  rotate_left
  · by_cases e : b9 = b
    · rw [e, upd_at, tv_add (a := G 14 b) rfl (show (1 : Int32).toInt = 1 from rfl) (by have := (G 9 b).toInt_lt; have := (G 14 b).le_toInt; omega)]
      omega
    · rw [upd_ne _ _ e]; exact hj.b hb9
  have hq := hj.p hq
  refine ⟨hq.1, hq.2.1, ?_⟩
  by_cases e : q = p
  · rw [e, upd_at, upd_at, e23]
    have := hh.2.2.2
    exact ⟨hu.1, by omega⟩
  · rw [upd_ne _ _ e, upd_ne _ _ e]
    exact hq.2.2
theorem jv_sho {G : Gd} (hi : Iv G) (hj : Jv G) {k b : Nat} {bi : Int32} (hk : (k : Int) < (G 5 0).toInt) : Jv (Gsho G k b bi) := by
  unfold Gsho
  by_cases h2 : Rf G k b = 2
  · rw [if_pos h2]
    exact jv_65 hj _
  · rw [if_neg h2]
    by_cases h3 : Rf G k b = 0
    · rw [if_pos h3]
      have hr := Rf_0 h3
      have h1 := hi.k hk
      exact jv_vis hi hj (by omega) hr.2.2.2.2 ⟨hr.2.1, hr.2.2.1⟩
    · rw [if_neg h3]
      exact hj
theorem iv_sho {G : Gd} (hi : Iv G) {k b : Nat} {bi : Int32} (hk : (k : Int) < (G 5 0).toInt) (hb : (b : Int) < (G 3 0).toInt) (hbi : bi.toInt = b) : Iv (Gsho G k b bi) := by
  unfold Gsho
  by_cases h2 : Rf G k b = 2
  · rw [if_pos h2]
    exact iv_6 hi 5 _
  · rw [if_neg h2]
    by_cases h3 : Rf G k b = 0
    · rw [if_pos h3]
      have hr := Rf_0 h3
      have h1 := hi.k hk
      exact iv_vis hi (by omega) hb hbi ⟨hr.2.1, hr.2.2.1⟩ hr.2.2.2.1 hr.2.2.2.2
    · rw [if_neg h3]
      exact hi
theorem iv_bck {G : Gd} (hi : Iv G) {p : Nat} (hp : (p : Int) < (G 4 0).toInt) : Iv (Gbck G p) := by
  have hf := fpd_in hi hp
  have h1 := hi.p hp
  have i1 : Iv (Gbk G p (Rd G p) (fpd G p)) := iv_pay (iv_6 hi 1 _) hp ⟨hf.1, hf.2.1⟩
  unfold Gbck
  by_cases c : (G 20 p).toInt = -1
  · rw [if_pos c]
    exact iv_ret i1 hp
  · rw [if_neg c]
    have hc : 0 ≤ (Gbk G p (Rd G p) (fpd G p) 20 p).toInt ∧ (Gbk G p (Rd G p) (fpd G p) 20 p).toInt < (Gbk G p (Rd G p) (fpd G p) 5 0).toInt := by
      rw [show Gbk G p (Rd G p) (fpd G p) 20 = G 20 from rfl, show Gbk G p (Rd G p) (fpd G p) 5 = G 5 from rfl]
      omega
    exact iv_ret (iv_los i1 hp hc) hp
theorem jv_bck {G : Gd} (hi : Iv G) (hj : Jv G) {p : Nat} (hp : (p : Int) < (G 4 0).toInt) : Jv (Gbck G p) := by
  have hf := fpd_in hi hp
  have h1 := hi.p hp
  have i1 : Iv (Gbk G p (Rd G p) (fpd G p)) := iv_pay (iv_6 hi 1 _) hp ⟨hf.1, hf.2.1⟩
  have j1 : Jv (Gbk G p (Rd G p) (fpd G p)) := jv_pay (G := p2 G 6 1 (G 6 1 + Rd G p)) (jv_61 hj _) hp _
  unfold Gbck
  by_cases c : (G 20 p).toInt = -1
  · rw [if_pos c]
    exact jv_ret j1 c
  · rw [if_neg c]
    have j2 := jv_los i1 j1 hp (by rw [show Gbk G p (Rd G p) (fpd G p) 20 = G 20 from rfl]; omega)
    refine jv_ret j2 ?_
    show (upd (G 20) p (-1) p).toInt = -1
    rw [upd_at]
    rfl
/-- bounds after so many steps -/
def Kb (n : Nat) (G : Gd) : Prop := 0 ≤ (G 6 3).toInt ∧ (G 6 3).toInt ≤ 10000 * n ∧ 0 ≤ (G 6 1).toInt ∧ (G 6 1).toInt ≤ 100000 * n ∧ (G 1 0).toInt ≤ 100 + 150 * n
theorem Kb.le {n m : Nat} {G : Gd} (h : Kb n G) (hm : n ≤ m) : Kb m G := by unfold Kb at h ⊢; omega
theorem kb_same {n : Nat} {G H : Gd} (h : Kb n G) (e3 : H 6 3 = G 6 3) (e1 : H 6 1 = G 6 1) (et : H 1 0 = G 1 0) : Kb n H := by unfold Kb; rw [e3, e1, et]; exact h
theorem kb_pay {n : Nat} {G : Gd} (hn : n ≤ 1000) (h : Kb n G) {p : Nat} {a : Int32} (ha : 0 ≤ a.toInt ∧ a.toInt ≤ 2030) : Kb (n + 1) (Gpay G p a) := by
  unfold Kb at h
  have e : (G 6 3 + a).toInt = (G 6 3).toInt + a.toInt := tv_add rfl rfl (by omega)
  show 0 ≤ (G 6 3 + a).toInt ∧ (G 6 3 + a).toInt ≤ 10000 * (n + 1 : Nat) ∧ 0 ≤ (G 6 1).toInt ∧ (G 6 1).toInt ≤ 100000 * (n + 1 : Nat) ∧ (G 1 0).toInt ≤ 100 + 150 * (n + 1 : Nat)
  omega
theorem kb_bck {n : Nat} {G : Gd} (hn : n ≤ 1000) (hi : Iv G) (h : Kb n G) {p : Nat} (hp : (p : Int) < (G 4 0).toInt) : Kb (n + 1) (Gbck G p) := by
  have hf := fpd_in hi hp
  have hr := Rd_in hi hp
  have h1 := hi.p hp
  unfold Kb at h
  have e : (G 6 3 + fpd G p).toInt = (G 6 3).toInt + (fpd G p).toInt := tv_add rfl rfl (by omega)
  have e1 : (G 6 1 + Rd G p).toInt = (G 6 1).toInt + (Rd G p).toInt := tv_add rfl rfl (by omega)
  have g3 : Gbck G p 6 3 = G 6 3 + fpd G p := by
    unfold Gbck
    by_cases c : (G 20 p).toInt = -1
    · rw [if_pos c]; rfl
    · rw [if_neg c]; rfl
  have g1 : Gbck G p 6 1 = G 6 1 + Rd G p := by
    unfold Gbck
    by_cases c : (G 20 p).toInt = -1
    · rw [if_pos c]; rfl
    · rw [if_neg c]; rfl
  have gt : Gbck G p 1 0 = G 1 0 := by
    unfold Gbck
    by_cases c : (G 20 p).toInt = -1
    · rw [if_pos c]; rfl
    · rw [if_neg c]; rfl
  unfold Kb
  rw [g3, g1, gt, e, e1]
  omega
theorem kb_tk {n : Nat} {G : Gd} (h : Kb n G) (hi : Iv G) {t : Int32} (ht : 1 ≤ t.toInt ∧ t.toInt ≤ 150) : Kb (n + 1) (Gtk G t) := by
  have h0 := hi.1
  unfold Kb at h
  have e : (G 1 0 + t).toInt = (G 1 0).toInt + t.toInt := tv_add rfl rfl (by omega)
  show 0 ≤ (G 6 3).toInt ∧ (G 6 3).toInt ≤ 10000 * (n + 1 : Nat) ∧ 0 ≤ (G 6 1).toInt ∧ (G 6 1).toInt ≤ 100000 * (n + 1 : Nat) ∧ (G 1 0 + t).toInt ≤ 100 + 150 * (n + 1 : Nat)
  omega
theorem kb_sho {n : Nat} {G : Gd} (h : Kb n G) (k b : Nat) (bi : Int32) : Kb n (Gsho G k b bi) := by
  unfold Gsho
  by_cases h2 : Rf G k b = 2
  · rw [if_pos h2]; exact kb_same h rfl rfl rfl
  · rw [if_neg h2]
    by_cases h3 : Rf G k b = 0
    · rw [if_pos h3]; exact kb_same h rfl rfl rfl
    · rw [if_neg h3]; exact h
-- what is told of it
/-- no violations -/
theorem viol_0 {G : Gd} (hi : Iv G) (hj : Jv G) : vAll G = 0 := by
  have h0 := hi.1
  have v1 : ∀ k : Nat, k ≤ (G 4 0).toInt.toNat → vap G k = 0 := by
    intro k
    induction k with
    | zero => intro _; rfl
    | succ k ih =>
      intro hk
      have hp : (k : Int) < (G 4 0).toInt := by omega
      have hh := hj.p hp
      have hb := hi.p hp
      have b1 := bitc_pcb (x := G 22 k) (by omega)
      have b2 := (pcb_le hh.2.2.1 14).1
      have a1 : va1 G k = 0 := by unfold va1; rw [if_neg (by omega)]
      have a2 : va2 G k = 0 := by
        unfold va2
        rw [if_neg]
        rintro ⟨n1, n2⟩
        rcases hh.1 with h | h
        · exact n1 h
        · exact n2 ⟨h.1, ti_ext (by rw [h.2, oN _ (by omega)])⟩
      have a3 : va3 G k = 0 := by
        unfold va3
        rw [if_neg]
        rintro ⟨n1, n2⟩
        have : (G 21 k).toInt = 1 := by omega
        exact n1 (hh.2.1 this)
      rw [vap, ih (by omega), a1, a2, a3]
      rfl
  have v2 : ∀ k : Nat, k ≤ (G 3 0).toInt.toNat → s32 (vb1 G) k = 0 := by
    intro k
    induction k with
    | zero => intro _; rfl
    | succ k ih =>
      intro hk
      have hb := hi.b (b := k) (by omega)
      have a1 : vb1 G k = 0 := by
        unfold vb1
        have := hj.b (b := k) (by omega)
        rw [if_neg (by omega)]
      rw [s32, ih (by omega), a1]
      rfl
  have v3 : vs1 G = 0 := by unfold vs1; rw [if_pos (sums_eq hi).symm]
  have v4 : vs2 G = 0 := by unfold vs2; rw [if_pos hj.2.2.1]
  unfold vAll
  rw [v1 _ (Nat.le_refl _), v2 _ (Nat.le_refl _), v3, v4]
  rfl
