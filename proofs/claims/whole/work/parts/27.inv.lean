/-! THE MATHEMATICS, 8: what holds of every garden stays -/
theorem iv_6 {G : Gd} (hi : Iv G) (j : Nat) (v : Int32) : Iv (p2 G 6 j v) := by
  refine ⟨?_, fun i9 hi9 => ?_, fun b9 hb9 => ?_, fun q9 hq9 => ?_, fun k9 hk9 => ?_, ?_⟩
  · have hh := hi.1
    simp (disch := omega) only [upd_at, upd_ne, p2_at, p2_ne]
    omega
  · simp (disch := omega) only [upd_at, upd_ne, p2_at, p2_ne] at hi9
    have hh := hi.2.1 i9 hi9
    simp (disch := omega) only [upd_at, upd_ne, p2_at, p2_ne]
    first | exact hh | omega
  · simp (disch := omega) only [upd_at, upd_ne, p2_at, p2_ne] at hb9
    have hh := hi.2.2.1 b9 hb9
    simp (disch := omega) only [upd_at, upd_ne, p2_at, p2_ne]
    first | exact hh | omega
  · simp (disch := omega) only [upd_at, upd_ne, p2_at, p2_ne] at hq9
    have hh := hi.2.2.2.1 q9 hq9
    simp (disch := omega) only [upd_at, upd_ne, p2_at, p2_ne]
    first | exact hh | omega
  · simp (disch := omega) only [upd_at, upd_ne, p2_at, p2_ne] at hk9
    have hh := hi.2.2.2.2.1 k9 hk9
    simp (disch := omega) only [upd_at, upd_ne, p2_at, p2_ne]
    first | exact hh | omega
  · have hh := hi.2.2.2.2.2
    simp (disch := omega) only [upd_at, upd_ne, p2_at, p2_ne]
    exact hh
theorem iv_pay {G : Gd} (hi : Iv G) {p : Nat} (hp : (p : Int) < (G 4 0).toInt) {a : Int32} (ha : 0 ≤ a.toInt ∧ a.toInt ≤ (G 26 p).toInt) : Iv (Gpay G p a) := by
  have h1 := hi.p hp
  have ea : (G 26 p - a).toInt = (G 26 p).toInt - a.toInt := tv_sub rfl rfl (by omega)
  clear h1
  unfold Gpay
  refine ⟨?_, fun i9 hi9 => ?_, fun b9 hb9 => ?_, fun q9 hq9 => ?_, fun k9 hk9 => ?_, ?_⟩
  · have hh := hi.1
    simp (disch := omega) only [upd_at, upd_ne, p2_at, p2_ne]
    omega
  · simp (disch := omega) only [upd_at, upd_ne, p2_at, p2_ne] at hi9
    have hh := hi.2.1 i9 hi9
    simp (disch := omega) only [upd_at, upd_ne, p2_at, p2_ne]
    first | exact hh | omega
  · simp (disch := omega) only [upd_at, upd_ne, p2_at, p2_ne] at hb9
    have hh := hi.2.2.1 b9 hb9
    simp (disch := omega) only [upd_at, upd_ne, p2_at, p2_ne]
    first | exact hh | omega
  · simp (disch := omega) only [upd_at, upd_ne, p2_at, p2_ne] at hq9
    have hh := hi.2.2.2.1 q9 hq9
    by_cases e9_ : q9 = p
    · subst e9_
      simp (disch := omega) only [upd_at, upd_ne, p2_at, p2_ne]
      omega
    · simp (disch := omega) only [upd_at, upd_ne, p2_at, p2_ne]
      omega
  · simp (disch := omega) only [upd_at, upd_ne, p2_at, p2_ne] at hk9
    have hh := hi.2.2.2.2.1 k9 hk9
    simp (disch := omega) only [upd_at, upd_ne, p2_at, p2_ne]
    first | exact hh | omega
  · have hh := hi.2.2.2.2.2
    simp (disch := omega) only [upd_at, upd_ne, p2_at, p2_ne]
    exact hh
theorem iv_los {G : Gd} (hi : Iv G) {p : Nat} (hp : (p : Int) < (G 4 0).toInt) (hc : 0 ≤ (G 20 p).toInt ∧ (G 20 p).toInt < (G 5 0).toInt) : Iv (Glos G p) := by
  have e0 : (-1 : Int32).toInt = -1 := rfl
  have e1 : (1 : Int32).toInt = 1 := rfl
  have h0 := hi.1
  unfold Glos
  generalize (G 20 p).toInt.toNat = c
  refine ⟨?_, fun i9 hi9 => ?_, fun b9 hb9 => ?_, fun q9 hq9 => ?_, fun k9 hk9 => ?_, ?_⟩
  · have hh := hi.1
    simp (disch := omega) only [upd_at, upd_ne, p2_at, p2_ne]
    omega
  · simp (disch := omega) only [upd_at, upd_ne, p2_at, p2_ne] at hi9
    have hh := hi.2.1 i9 hi9
    simp (disch := omega) only [upd_at, upd_ne, p2_at, p2_ne]
    first | exact hh | omega
  · simp (disch := omega) only [upd_at, upd_ne, p2_at, p2_ne] at hb9
    have hh := hi.2.2.1 b9 hb9
    simp (disch := omega) only [upd_at, upd_ne, p2_at, p2_ne]
    first | exact hh | omega
  · simp (disch := omega) only [upd_at, upd_ne, p2_at, p2_ne] at hq9
    have hh := hi.2.2.2.1 q9 hq9
    by_cases e9_ : q9 = p
    · subst e9_
      simp (disch := omega) only [upd_at, upd_ne, p2_at, p2_ne]
      omega
    · simp (disch := omega) only [upd_at, upd_ne, p2_at, p2_ne]
      omega
  · simp (disch := omega) only [upd_at, upd_ne, p2_at, p2_ne] at hk9
    have hh := hi.2.2.2.2.1 k9 hk9
    by_cases e9_ : k9 = c
    · subst e9_
      simp (disch := omega) only [upd_at, upd_ne, p2_at, p2_ne]
      omega
    · simp (disch := omega) only [upd_at, upd_ne, p2_at, p2_ne]
      omega
  · have hh := hi.2.2.2.2.2
    simp (disch := omega) only [upd_at, upd_ne, p2_at, p2_ne]
    exact hh
theorem iv_ret {G : Gd} (hi : Iv G) {p : Nat} (hp : (p : Int) < (G 4 0).toInt) : Iv (p2 G 21 p 1) := by
  have e1 : (1 : Int32).toInt = 1 := rfl
  refine ⟨?_, fun i9 hi9 => ?_, fun b9 hb9 => ?_, fun q9 hq9 => ?_, fun k9 hk9 => ?_, ?_⟩
  · have hh := hi.1
    simp (disch := omega) only [upd_at, upd_ne, p2_at, p2_ne]
    omega
  · simp (disch := omega) only [upd_at, upd_ne, p2_at, p2_ne] at hi9
    have hh := hi.2.1 i9 hi9
    simp (disch := omega) only [upd_at, upd_ne, p2_at, p2_ne]
    first | exact hh | omega
  · simp (disch := omega) only [upd_at, upd_ne, p2_at, p2_ne] at hb9
    have hh := hi.2.2.1 b9 hb9
    simp (disch := omega) only [upd_at, upd_ne, p2_at, p2_ne]
    first | exact hh | omega
  · simp (disch := omega) only [upd_at, upd_ne, p2_at, p2_ne] at hq9
    have hh := hi.2.2.2.1 q9 hq9
    by_cases e9_ : q9 = p
    · subst e9_
      simp (disch := omega) only [upd_at, upd_ne, p2_at, p2_ne]
      omega
    · simp (disch := omega) only [upd_at, upd_ne, p2_at, p2_ne]
      omega
  · simp (disch := omega) only [upd_at, upd_ne, p2_at, p2_ne] at hk9
    have hh := hi.2.2.2.2.1 k9 hk9
    simp (disch := omega) only [upd_at, upd_ne, p2_at, p2_ne]
    first | exact hh | omega
  · have hh := hi.2.2.2.2.2
    simp (disch := omega) only [upd_at, upd_ne, p2_at, p2_ne]
    exact hh
theorem iv_wlk {G : Gd} (hi : Iv G) (a b : Int32) : Iv (Gwlk G a b) := by
  unfold Gwlk
  refine ⟨?_, fun i9 hi9 => ?_, fun b9 hb9 => ?_, fun q9 hq9 => ?_, fun k9 hk9 => ?_, ?_⟩
  · have hh := hi.1
    simp (disch := omega) only [upd_at, upd_ne, p2_at, p2_ne]
    omega
  · simp (disch := omega) only [upd_at, upd_ne, p2_at, p2_ne] at hi9
    have hh := hi.2.1 i9 hi9
    simp (disch := omega) only [upd_at, upd_ne, p2_at, p2_ne]
    first | exact hh | omega
  · simp (disch := omega) only [upd_at, upd_ne, p2_at, p2_ne] at hb9
    have hh := hi.2.2.1 b9 hb9
    simp (disch := omega) only [upd_at, upd_ne, p2_at, p2_ne]
    first | exact hh | omega
  · simp (disch := omega) only [upd_at, upd_ne, p2_at, p2_ne] at hq9
    have hh := hi.2.2.2.1 q9 hq9
    simp (disch := omega) only [upd_at, upd_ne, p2_at, p2_ne]
    first | exact hh | omega
  · simp (disch := omega) only [upd_at, upd_ne, p2_at, p2_ne] at hk9
    have hh := hi.2.2.2.2.1 k9 hk9
    simp (disch := omega) only [upd_at, upd_ne, p2_at, p2_ne]
    first | exact hh | omega
  · have hh := hi.2.2.2.2.2
    simp (disch := omega) only [upd_at, upd_ne, p2_at, p2_ne]
    exact hh
theorem iv_rate {G : Gd} (hi : Iv G) {a : Int32} (ha : 1 ≤ a.toInt ∧ a.toInt ≤ 20) : Iv (p2 G 2 1 a) := by
  refine ⟨?_, fun i9 hi9 => ?_, fun b9 hb9 => ?_, fun q9 hq9 => ?_, fun k9 hk9 => ?_, ?_⟩
  · have hh := hi.1
    simp (disch := omega) only [upd_at, upd_ne, p2_at, p2_ne]
    omega
  · simp (disch := omega) only [upd_at, upd_ne, p2_at, p2_ne] at hi9
    have hh := hi.2.1 i9 hi9
    simp (disch := omega) only [upd_at, upd_ne, p2_at, p2_ne]
    first | exact hh | omega
  · simp (disch := omega) only [upd_at, upd_ne, p2_at, p2_ne] at hb9
    have hh := hi.2.2.1 b9 hb9
    simp (disch := omega) only [upd_at, upd_ne, p2_at, p2_ne]
    first | exact hh | omega
  · simp (disch := omega) only [upd_at, upd_ne, p2_at, p2_ne] at hq9
    have hh := hi.2.2.2.1 q9 hq9
    simp (disch := omega) only [upd_at, upd_ne, p2_at, p2_ne]
    first | exact hh | omega
  · simp (disch := omega) only [upd_at, upd_ne, p2_at, p2_ne] at hk9
    have hh := hi.2.2.2.2.1 k9 hk9
    simp (disch := omega) only [upd_at, upd_ne, p2_at, p2_ne]
    first | exact hh | omega
  · have hh := hi.2.2.2.2.2
    simp (disch := omega) only [upd_at, upd_ne, p2_at, p2_ne]
    exact hh
theorem iv_pause {G : Gd} (hi : Iv G) {a : Int32} (ha : 0 ≤ a.toInt ∧ a.toInt ≤ 8) : Iv (p2 G 0 6 a) := by
  refine ⟨?_, fun i9 hi9 => ?_, fun b9 hb9 => ?_, fun q9 hq9 => ?_, fun k9 hk9 => ?_, ?_⟩
  · have hh := hi.1
    simp (disch := omega) only [upd_at, upd_ne, p2_at, p2_ne]
    omega
  · simp (disch := omega) only [upd_at, upd_ne, p2_at, p2_ne] at hi9
    have hh := hi.2.1 i9 hi9
    simp (disch := omega) only [upd_at, upd_ne, p2_at, p2_ne]
    first | exact hh | omega
  · simp (disch := omega) only [upd_at, upd_ne, p2_at, p2_ne] at hb9
    have hh := hi.2.2.1 b9 hb9
    simp (disch := omega) only [upd_at, upd_ne, p2_at, p2_ne]
    first | exact hh | omega
  · simp (disch := omega) only [upd_at, upd_ne, p2_at, p2_ne] at hq9
    have hh := hi.2.2.2.1 q9 hq9
    simp (disch := omega) only [upd_at, upd_ne, p2_at, p2_ne]
    first | exact hh | omega
  · simp (disch := omega) only [upd_at, upd_ne, p2_at, p2_ne] at hk9
    have hh := hi.2.2.2.2.1 k9 hk9
    simp (disch := omega) only [upd_at, upd_ne, p2_at, p2_ne]
    first | exact hh | omega
  · have hh := hi.2.2.2.2.2
    simp (disch := omega) only [upd_at, upd_ne, p2_at, p2_ne]
    exact hh
theorem iv_price {G : Gd} (hi : Iv G) {i : Nat} {a : Int32} (ha : 1 ≤ a.toInt ∧ a.toInt ≤ 99) : Iv (p2 G 7 i a) := by
  refine ⟨?_, fun i9 hi9 => ?_, fun b9 hb9 => ?_, fun q9 hq9 => ?_, fun k9 hk9 => ?_, ?_⟩
  · have hh := hi.1
    simp (disch := omega) only [upd_at, upd_ne, p2_at, p2_ne]
    omega
  · simp (disch := omega) only [upd_at, upd_ne, p2_at, p2_ne] at hi9
    have hh := hi.2.1 i9 hi9
    by_cases e9_ : i9 = i
    · subst e9_
      simp (disch := omega) only [upd_at, upd_ne, p2_at, p2_ne]
      omega
    · simp (disch := omega) only [upd_at, upd_ne, p2_at, p2_ne]
      omega
  · simp (disch := omega) only [upd_at, upd_ne, p2_at, p2_ne] at hb9
    have hh := hi.2.2.1 b9 hb9
    simp (disch := omega) only [upd_at, upd_ne, p2_at, p2_ne]
    first | exact hh | omega
  · simp (disch := omega) only [upd_at, upd_ne, p2_at, p2_ne] at hq9
    have hh := hi.2.2.2.1 q9 hq9
    simp (disch := omega) only [upd_at, upd_ne, p2_at, p2_ne]
    first | exact hh | omega
  · simp (disch := omega) only [upd_at, upd_ne, p2_at, p2_ne] at hk9
    have hh := hi.2.2.2.2.1 k9 hk9
    simp (disch := omega) only [upd_at, upd_ne, p2_at, p2_ne]
    first | exact hh | omega
  · have hh := hi.2.2.2.2.2
    simp (disch := omega) only [upd_at, upd_ne, p2_at, p2_ne]
    exact hh
theorem iv_sc {G : Gd} (hi : Iv G) {N : Nat} (hN : (G 2 0).toInt = N) (hN5 : N < 5) {a : Int32} (ha : 1 ≤ a.toInt ∧ a.toInt ≤ 99) : Iv (Gsc G N a) := by
  have en : (G 2 0 + 1).toInt = N + 1 := tv_add hN rfl (by omega)
  unfold Gsc
  refine ⟨?_, fun i9 hi9 => ?_, fun b9 hb9 => ?_, fun q9 hq9 => ?_, fun k9 hk9 => ?_, ?_⟩
  · have hh := hi.1
    simp (disch := omega) only [upd_at, upd_ne, p2_at, p2_ne, en]
    omega
  · simp (disch := omega) only [upd_at, upd_ne, p2_at, p2_ne, en] at hi9
    by_cases e9_ : i9 = N
    · subst e9_
      simp (disch := omega) only [upd_at, upd_ne, p2_at, p2_ne, en]
      omega
    · have hh := hi.2.1 i9 (by omega)
      simp (disch := omega) only [upd_at, upd_ne, p2_at, p2_ne, en]
      omega
  · simp (disch := omega) only [upd_at, upd_ne, p2_at, p2_ne, en] at hb9
    have hh := hi.2.2.1 b9 hb9
    simp (disch := omega) only [upd_at, upd_ne, p2_at, p2_ne, en]
    first | exact hh | omega
  · simp (disch := omega) only [upd_at, upd_ne, p2_at, p2_ne, en] at hq9
    have hh := hi.2.2.2.1 q9 hq9
    simp (disch := omega) only [upd_at, upd_ne, p2_at, p2_ne, en]
    first | exact hh | omega
  · simp (disch := omega) only [upd_at, upd_ne, p2_at, p2_ne, en] at hk9
    have hh := hi.2.2.2.2.1 k9 hk9
    simp (disch := omega) only [upd_at, upd_ne, p2_at, p2_ne, en]
    first | exact hh | omega
  · have hh := hi.2.2.2.2.2
    simp (disch := omega) only [upd_at, upd_ne, p2_at, p2_ne, en]
    exact hh
theorem iv_crd {G : Gd} (hi : Iv G) {p K : Nat} (hp : (p : Int) < (G 4 0).toInt) (hK : (G 5 0).toInt = K) (hK5 : K < 50) {pi : Int32} (hpi : pi.toInt = p) : Iv (Gcrd G p K pi) := by
  have ek : (G 5 0 + 1).toInt = K + 1 := tv_add hK rfl (by omega)
  have e0 : (0 : Int32).toInt = 0 := rfl
  unfold Gcrd
  refine ⟨?_, fun i9 hi9 => ?_, fun b9 hb9 => ?_, fun q9 hq9 => ?_, fun k9 hk9 => ?_, ?_⟩
  · have hh := hi.1
    simp (disch := omega) only [upd_at, upd_ne, p2_at, p2_ne, ek]
    omega
  · simp (disch := omega) only [upd_at, upd_ne, p2_at, p2_ne, ek] at hi9
    have hh := hi.2.1 i9 hi9
    simp (disch := omega) only [upd_at, upd_ne, p2_at, p2_ne, ek]
    first | exact hh | omega
  · simp (disch := omega) only [upd_at, upd_ne, p2_at, p2_ne, ek] at hb9
    have hh := hi.2.2.1 b9 hb9
    simp (disch := omega) only [upd_at, upd_ne, p2_at, p2_ne, ek]
    first | exact hh | omega
  · simp (disch := omega) only [upd_at, upd_ne, p2_at, p2_ne, ek] at hq9
    have hh := hi.2.2.2.1 q9 hq9
    by_cases e9_ : q9 = p
    · subst e9_
      simp (disch := omega) only [upd_at, upd_ne, p2_at, p2_ne, ek]
      omega
    · simp (disch := omega) only [upd_at, upd_ne, p2_at, p2_ne, ek]
      omega
  · simp (disch := omega) only [upd_at, upd_ne, p2_at, p2_ne, ek] at hk9
    by_cases e9_ : k9 = K
    · subst e9_
      simp (disch := omega) only [upd_at, upd_ne, p2_at, p2_ne, ek]
      omega
    · have hh := hi.2.2.2.2.1 k9 (by omega)
      simp (disch := omega) only [upd_at, upd_ne, p2_at, p2_ne, ek]
      omega
  · have hh := hi.2.2.2.2.2
    simp (disch := omega) only [upd_at, upd_ne, p2_at, p2_ne, ek]
    exact hh
theorem iv_bed {G : Gd} (hi : Iv G) {N : Nat} (hN : (G 3 0).toInt = N) (hN8 : N < 8) {sc pl f l : Int32} (hpl : 1 ≤ pl.toInt ∧ pl.toInt ≤ 20) : Iv (Gbed G N sc pl f l) := by
  have en : (G 3 0 + 1).toInt = N + 1 := tv_add hN rfl (by omega)
  have e0 : (0 : Int32).toInt = 0 := rfl
  have e20 : (20 : Int32).toInt = 20 := rfl
  have h00 := hi.1
  have hs := hi.2.2.2.2.2
  rw [hN] at hs
  unfold Gbed
  refine ⟨?_, fun i9 hi9 => ?_, fun b9 hb9 => ?_, fun q9 hq9 => ?_, fun k9 hk9 => ?_, ?_⟩
  · simp (disch := omega) only [upd_at, upd_ne, p2_at, p2_ne, en]
    omega
  · simp (disch := omega) only [upd_at, upd_ne, p2_at, p2_ne] at hi9 ⊢
    exact hi.2.1 i9 hi9
  · simp (disch := omega) only [upd_at, upd_ne, p2_at, p2_ne, en] at hb9
    by_cases e9_ : b9 = N
    · subst e9_
      simp (disch := omega) only [upd_at, upd_ne, p2_at, p2_ne]
      omega
    · have hh := hi.b (b := b9) (by omega)
      simp (disch := omega) only [upd_at, upd_ne, p2_at, p2_ne]
      exact hh
  · simp (disch := omega) only [upd_at, upd_ne, p2_at, p2_ne] at hq9
    have hh := hi.p hq9
    have e12 : ¬ ((G 25 q9).toInt.toNat = N ∧ (G 24 q9).toInt = (G 1 0).toInt) := by omega
    simp (disch := omega) only [upd_at, upd_ne, p2_at, p2_ne, en]
    by_cases e25 : (G 25 q9).toInt.toNat = N
    · rw [e25, upd_at]
      omega
    · rw [upd_ne _ _ e25]
      omega
  · simp (disch := omega) only [upd_at, upd_ne, p2_at, p2_ne] at hk9 ⊢
    exact hi.k hk9
  · simp (disch := omega) only [upd_at, upd_ne, p2_at, p2_ne, en]
    rw [hs, show ((N : Int) + 1).toNat = N + 1 by omega, show (N : Int).toNat = N by omega]
    simp only [sm, upd_at]
    rw [sm_upd_out (Nat.le_refl N), e0]
    omega
theorem iv_sel {G : Gd} (hi : Iv G) {P K : Nat} (hP : (G 4 0).toInt = P) (hK : (G 5 0).toInt = K) (hP3 : P < 30) (hK5 : K < 50) {set day days kind pr : Int32} (hday : 0 ≤ day.toInt ∧ day.toInt ≤ 99) (hdays : 1 ≤ days.toInt ∧ days.toInt ≤ 14) (hkind : 0 ≤ kind.toInt ∧ kind.toInt ≤ 1) (hpr : 0 ≤ pr.toInt ∧ pr.toInt ≤ 6930) : Iv (Gsel G P K set day days kind pr) := by
  have en : (G 4 0 + 1).toInt = P + 1 := tv_add hP rfl (by omega)
  have ek : (G 5 0 + 1).toInt = K + 1 := tv_add hK rfl (by omega)
  have e0 : (0 : Int32).toInt = 0 := rfl
  have em : (-1 : Int32).toInt = -1 := rfl
  have h00 := hi.1
  have hs := hi.2.2.2.2.2
  rw [hP] at hs
  unfold Gsel
  refine ⟨?_, fun i9 hi9 => ?_, fun b9 hb9 => ?_, fun q9 hq9 => ?_, fun k9 hk9 => ?_, ?_⟩
  · simp (disch := omega) only [upd_at, upd_ne, p2_at, p2_ne, en, ek]
    omega
  · simp (disch := omega) only [upd_at, upd_ne, p2_at, p2_ne] at hi9 ⊢
    exact hi.2.1 i9 hi9
  · simp (disch := omega) only [upd_at, upd_ne, p2_at, p2_ne] at hb9 ⊢
    exact hi.b hb9
  · simp (disch := omega) only [upd_at, upd_ne, p2_at, p2_ne, en] at hq9
    by_cases e9_ : q9 = P
    · subst e9_
      simp (disch := omega) only [upd_at, upd_ne, p2_at, p2_ne, ek]
      and_intros
      all_goals first | trivial | omega
    · have hh := hi.p (p := q9) (by omega)
      simp (disch := omega) only [upd_at, upd_ne, p2_at, p2_ne, ek]
      omega
  · simp (disch := omega) only [upd_at, upd_ne, p2_at, p2_ne, ek] at hk9
    by_cases e9_ : k9 = K
    · subst e9_
      simp (disch := omega) only [upd_at, upd_ne, p2_at, p2_ne, en]
      omega
    · have hh := hi.k (k := k9) (by omega)
      simp (disch := omega) only [upd_at, upd_ne, p2_at, p2_ne, en]
      omega
  · simp (disch := omega) only [upd_at, upd_ne, p2_at, p2_ne, en]
    rw [← hs, show ((P : Int) + 1).toNat = P + 1 by omega, show (P : Int).toNat = P by omega]
    simp only [sm, upd_at]
    rw [sm_upd_out (Nat.le_refl P), e0]
    omega
theorem iv_ren {G : Gd} (hi : Iv G) {p : Nat} (hp : (p : Int) < (G 4 0).toInt) {set days : Int32} (hd : 1 ≤ days.toInt ∧ days.toInt ≤ 14) : Iv (Gren G p set days (dif G p set days)) := by
  have h1 := hi.p hp
  have hP := Pr_in hi (set := set) (kind := G 18 p) hd
  have ed : 0 ≤ (G 19 p + dif G p set days).toInt ∧ (G 19 p + dif G p set days).toInt ≤ 6930 := by
    unfold dif
    split
    · have es : (Pr G set days (G 18 p) - G 19 p).toInt = (Pr G set days (G 18 p)).toInt - (G 19 p).toInt := tv_sub rfl rfl (by omega)
      have e2 : (G 19 p + (Pr G set days (G 18 p) - G 19 p)).toInt = (G 19 p).toInt + ((Pr G set days (G 18 p)).toInt - (G 19 p).toInt) := tv_add rfl es (by omega)
      omega
    · rw [Int32.add_zero]; omega
  clear h1
  generalize dif G p set days = d at ed ⊢
  unfold Gren
  refine ⟨?_, fun i9 hi9 => ?_, fun b9 hb9 => ?_, fun q9 hq9 => ?_, fun k9 hk9 => ?_, ?_⟩
  · have hh := hi.1
    simp (disch := omega) only [upd_at, upd_ne, p2_at, p2_ne]
    omega
  · simp (disch := omega) only [upd_at, upd_ne, p2_at, p2_ne] at hi9
    have hh := hi.2.1 i9 hi9
    simp (disch := omega) only [upd_at, upd_ne, p2_at, p2_ne]
    first | exact hh | omega
  · simp (disch := omega) only [upd_at, upd_ne, p2_at, p2_ne] at hb9
    have hh := hi.2.2.1 b9 hb9
    simp (disch := omega) only [upd_at, upd_ne, p2_at, p2_ne]
    first | exact hh | omega
  · simp (disch := omega) only [upd_at, upd_ne, p2_at, p2_ne] at hq9
    have hh := hi.2.2.2.1 q9 hq9
    by_cases e9_ : q9 = p
    · subst e9_
      simp (disch := omega) only [upd_at, upd_ne, p2_at, p2_ne]
      omega
    · simp (disch := omega) only [upd_at, upd_ne, p2_at, p2_ne]
      omega
  · simp (disch := omega) only [upd_at, upd_ne, p2_at, p2_ne] at hk9
    have hh := hi.2.2.2.2.1 k9 hk9
    simp (disch := omega) only [upd_at, upd_ne, p2_at, p2_ne]
    first | exact hh | omega
  · have hh := hi.2.2.2.2.2
    simp (disch := omega) only [upd_at, upd_ne, p2_at, p2_ne]
    exact hh
-- a visit
theorem or_nat (n m : Nat) : Int32.ofNat n ||| Int32.ofNat m = Int32.ofNat (n ||| m) := by
  rw [← UInt32.toInt32_ofNat', ← UInt32.toInt32_ofNat', ← UInt32.toInt32_ofNat', UInt32.ofNat_or, UInt32.toInt32_or]
theorem pow_dec : ∀ s : Fin 14, (1 : Int32) <<< (Int32.ofNat s.1 &&& 31) = Int32.ofNat (2 ^ s.1) := by decide +kernel
theorem us_in {u d : Int32} (hu : 0 ≤ u.toInt ∧ u.toInt < 16384) (hd : 0 ≤ d.toInt ∧ d.toInt ≤ 13) : 1 ≤ (u ||| (1 : Int32) <<< (d &&& 31)).toInt ∧ (u ||| (1 : Int32) <<< (d &&& 31)).toInt < 16384 := by
  have eu : u = Int32.ofNat u.toInt.toNat := ti_ext (by rw [oN _ (by omega)]; omega)
  have ed : d = Int32.ofNat d.toInt.toNat := ti_ext (by rw [oN _ (by omega)]; omega)
  have q := pow_dec ⟨d.toInt.toNat, by omega⟩
  have h1 : 2 ^ d.toInt.toNat < 2 ^ 14 := Nat.pow_lt_pow_right (by decide) (by omega)
  have h2 : 1 ≤ 2 ^ d.toInt.toNat := Nat.one_le_two_pow
  have h3 := Nat.or_lt_two_pow (x := u.toInt.toNat) (y := 2 ^ d.toInt.toNat) (n := 14) (by omega) h1
  have h4 : 2 ^ d.toInt.toNat ≤ u.toInt.toNat ||| 2 ^ d.toInt.toNat := Nat.right_le_or
  have e : u ||| (1 : Int32) <<< (d &&& 31) = Int32.ofNat (u.toInt.toNat ||| 2 ^ d.toInt.toNat) := by
    rw [← or_nat, ← eu, ← q]
    dsimp only
    rw [← ed]
  rw [e, oN _ (by omega)]
  omega
theorem sm_ge {f : Nat → Int32} {n : Nat} (h : ∀ k, k < n → 0 ≤ (f k).toInt) {k : Nat} (hk : k < n) : (f k).toInt ≤ sm f n := by
  induction n with
  | zero => omega
  | succ n ih =>
    simp only [sm]
    have h0 := sm_nonneg (fun k hk => h k (by omega) : ∀ k, k < n → 0 ≤ (f k).toInt)
    have h1 := h n (by omega)
    by_cases e : k = n
    · subst e; omega
    · have := ih (fun k hk => h k (by omega)) (by omega); omega
/-- all visits stay small -/
theorem vis_all {G : Gd} (hi : Iv G) : 0 ≤ sm (G 23) (G 4 0).toInt.toNat ∧ sm (G 23) (G 4 0).toInt.toNat ≤ 1536000 := by
  have h0 := hi.1
  have hs := hi.2.2.2.2.2
  have h1 := sm_nonneg (f := G 13) (n := (G 3 0).toInt.toNat) (fun k hk => by have := hi.b (b := k) (by omega); omega)
  have h2 := sm_le (f := G 13) (n := (G 3 0).toInt.toNat) (B := 192000) (fun k hk => by have := hi.b (b := k) (by omega); omega)
  omega
theorem vis_sm {G : Gd} (hi : Iv G) {p : Nat} (hp : (p : Int) < (G 4 0).toInt) : 0 ≤ (G 23 p).toInt ∧ (G 23 p).toInt ≤ 1536000 := by
  have h0 := hi.1
  have ha := vis_all hi
  have h1 := sm_ge (f := G 23) (n := (G 4 0).toInt.toNat) (fun k hk => by have := hi.p (p := k) (by omega); omega) (k := p) (by omega)
  have h2 := hi.p hp
  omega
theorem Rf_0 {G : Gd} {k b : Nat} (h : Rf G k b = 0) : (G 28 k).toInt = 0 ∧ (G 16 (G 27 k).toInt.toNat).toInt ≤ (Td G).toInt ∧ (Td G).toInt < (G 16 (G 27 k).toInt.toNat).toInt + (G 17 (G 27 k).toInt.toNat).toInt ∧ (G 26 (G 27 k).toInt.toNat).toInt ≤ 30 ∧ (G 14 b).toInt < (G 9 b).toInt := by
  unfold Rf at h
  repeat' (split at h)
  all_goals first | (exact absurd h (by decide)) | omega
theorem iv_vis {G : Gd} (hi : Iv G) {p b : Nat} (hp : (p : Int) < (G 4 0).toInt) (hb : (b : Int) < (G 3 0).toInt) {bi : Int32} (hbi : bi.toInt = b) (h1 : (G 16 p).toInt ≤ (Td G).toInt ∧ (Td G).toInt < (G 16 p).toInt + (G 17 p).toInt) (h2 : (G 26 p).toInt ≤ 30) (h3 : (G 14 b).toInt < (G 9 b).toInt) : Iv (Gvis G p b bi) := by
  have h00 := hi.1
  have ht := Td_in hi
  have hhp := hi.p hp
  have hhb := hi.b hb
  have hv := vis_sm hi hp
  have hs := hi.2.2.2.2.2
  have ed : (Td G - G 16 p).toInt = (Td G).toInt - (G 16 p).toInt := tv_sub rfl rfl (by omega)
  have hu := us_in (u := G 22 p) (d := Td G - G 16 p) (by omega) (by omega)
  have e13 : (G 13 b + 1).toInt = (G 13 b).toInt + 1 := tv_add rfl rfl (by omega)
  have e14 : (G 14 b + 1).toInt = (G 14 b).toInt + 1 := tv_add rfl rfl (by omega)
  have e23 : (G 23 p + 1).toInt = (G 23 p).toInt + 1 := tv_add rfl rfl (by omega)
  unfold Gvis
  generalize G 22 p ||| (1 : Int32) <<< ((Td G - G 16 p) &&& 31) = us at hu
  refine ⟨?_, fun i9 hi9 => ?_, fun b9 hb9 => ?_, fun q9 hq9 => ?_, fun k9 hk9 => ?_, ?_⟩
  · simp (disch := omega) only [upd_at, upd_ne, p2_at, p2_ne]
    omega
  · simp (disch := omega) only [upd_at, upd_ne, p2_at, p2_ne] at hi9 ⊢
    exact hi.2.1 i9 hi9
  · simp (disch := omega) only [upd_at, upd_ne, p2_at, p2_ne] at hb9
    have hh := hi.b hb9
    by_cases e9_ : b9 = b
    · subst e9_
      simp (disch := omega) only [upd_at, upd_ne, p2_at, p2_ne]
      omega
    · simp (disch := omega) only [upd_at, upd_ne, p2_at, p2_ne]
      exact hh
  · simp (disch := omega) only [upd_at, upd_ne, p2_at, p2_ne] at hq9
    have hh := hi.p hq9
    by_cases e9_ : q9 = p
    · subst e9_
      have eb : bi.toInt.toNat = b := by omega
      simp (disch := omega) only [upd_at, upd_ne, p2_at, p2_ne, eb]
      omega
    · simp (disch := omega) only [upd_at, upd_ne, p2_at, p2_ne]
      exact hh
  · simp (disch := omega) only [upd_at, upd_ne, p2_at, p2_ne] at hk9 ⊢
    exact hi.k hk9
  · simp (disch := omega) only [upd_at, upd_ne, p2_at, p2_ne]
    rw [sm_upd (by omega), sm_upd (by omega), hs, e13, e23]
    omega
theorem iv_plk {G : Gd} (hi : Iv G) {p b : Nat} (hp : (p : Int) < (G 4 0).toInt) (hb : (b : Int) < (G 3 0).toInt) {f bl : Int32} (h1 : (G 25 p).toInt = b) (h2 : (G 24 p).toInt = (G 1 0).toInt) (h3 : 1 ≤ bl.toInt ∧ bl.toInt ≤ (G 12 b).toInt) (h4 : 0 ≤ f.toInt ∧ f.toInt ≤ 40 * bl.toInt) : Iv (Gplk G p b f bl) := by
  have h00 := hi.1
  have hhp := hi.p hp
  have hhb := hi.b hb
  have hs := hi.2.2.2.2.2
  have e1 : (G 25 p).toInt.toNat = b := by omega
  rw [e1] at hhp
  have e12 : (G 12 b - bl).toInt = (G 12 b).toInt - bl.toInt := tv_sub rfl rfl (by omega)
  have e26 : (G 26 p + f).toInt = (G 26 p).toInt + f.toInt := tv_add rfl rfl (by omega)
  unfold Gplk
  refine ⟨?_, fun i9 hi9 => ?_, fun b9 hb9 => ?_, fun q9 hq9 => ?_, fun k9 hk9 => ?_, ?_⟩
  · simp (disch := omega) only [upd_at, upd_ne, p2_at, p2_ne]
    omega
  · simp (disch := omega) only [upd_at, upd_ne, p2_at, p2_ne] at hi9 ⊢
    exact hi.2.1 i9 hi9
  · simp (disch := omega) only [upd_at, upd_ne, p2_at, p2_ne] at hb9
    have hh := hi.b hb9
    by_cases e9_ : b9 = b
    · subst e9_
      simp (disch := omega) only [upd_at, upd_ne, p2_at, p2_ne]
      omega
    · simp (disch := omega) only [upd_at, upd_ne, p2_at, p2_ne]
      exact hh
  · simp (disch := omega) only [upd_at, upd_ne, p2_at, p2_ne] at hq9
    have hh := hi.p hq9
    by_cases e9_ : q9 = p
    · subst e9_
      simp (disch := omega) only [upd_at, upd_ne, p2_at, p2_ne, e1]
      omega
    · by_cases e25 : (G 25 q9).toInt.toNat = b
      · rw [e25] at hh
        simp (disch := omega) only [upd_at, upd_ne, p2_at, p2_ne, e25]
        omega
      · simp (disch := omega) only [upd_at, upd_ne, p2_at, p2_ne]
        exact hh
  · simp (disch := omega) only [upd_at, upd_ne, p2_at, p2_ne] at hk9 ⊢
    exact hi.k hk9
  · simp (disch := omega) only [upd_at, upd_ne, p2_at, p2_ne]
    exact hs
