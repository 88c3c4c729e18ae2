/-! the script that began writes, run -/
abbrev T9 (tx : List Nat) : Nat → Int32 := fun i => nI (t9 tx i)
/-- from the place p on the text is l -/
def SF (tx : List Nat) (p : Nat) (l : List Nat) : Prop := ∃ pre, tx = pre ++ l ∧ p = pre.length
theorem SF.at {tx : List Nat} {p : Nat} {l : List Nat} (h : SF tx p l) {i : Nat} (hi : i < l.length) : t9 tx (p + i) = l.getD i 0 := by
  obtain ⟨pre, rfl, rfl⟩ := h
  unfold t9
  rw [if_pos (by rw [List.length_append]; omega)]
  simp [List.getD, List.getElem?_append_right]
theorem SF.len {tx : List Nat} {p : Nat} {l : List Nat} (h : SF tx p l) : p + l.length = tx.length := by
  obtain ⟨pre, rfl, rfl⟩ := h
  rw [List.length_append]
theorem SF.adv {tx : List Nat} {p : Nat} {w l : List Nat} (h : SF tx p (w ++ l)) : SF tx (p + w.length) l := by
  obtain ⟨pre, rfl, rfl⟩ := h
  exact ⟨pre ++ w, by rw [List.append_assoc], by rw [List.length_append]⟩
theorem SF.adv1 {tx : List Nat} {p c : Nat} {l : List Nat} (h : SF tx p (c :: l)) : SF tx (p + 1) l := SF.adv (w := [c]) h
theorem t9_out {tx : List Nat} {i : Nat} (h : tx.length ≤ i) : t9 tx i = 32 := by unfold t9; rw [if_neg (by omega)]
theorem rn_is {P : Nat → Bool} {L : Nat} : ∀ (k p : Nat), (∀ i, i < k → P (p + i) = true) → (p + k < L → P (p + k) = false) → p + k ≤ L → rn P (L - p) p = p + k := by
  intro k
  induction k with
  | zero =>
    intro p _ he hL
    by_cases c : p < L
    · exact rn_stop (he c)
    · exact rn_end (by omega)
  | succ k ih =>
    intro p hk he hL
    rw [rn_step (show p < L by omega) (show P p = true from hk 0 (by omega)), ih (p + 1) (fun i hi => by rw [show p + 1 + i = p + (i + 1) by omega]; exact hk (i + 1) (by omega)) (fun h => by rw [show p + 1 + k = p + (k + 1) by omega]; exact he (by omega)) (by omega)]
    omega
theorem nI_t (tx : List Nat) (ht : ∀ i, t9 tx i < 256) (i : Nat) : (T9 tx i).toInt = t9 tx i := nI_toInt (by have := ht i; omega)
theorem wm_ok {T : Nat → Int32} {s : List Int32} {a : Nat} : ∀ n i, (∀ j, i ≤ j → j < i + n → T (a + j) = s.getD j 0) → wm T s a n i = true := by
  intro n
  induction n with
  | zero => intro i _; rfl
  | succ n ih =>
    intro i h
    rw [wm, if_pos (h i (by omega) (by omega))]
    exact ih (i + 1) (fun j h1 h2 => h j (by omega) (by omega))
theorem tA_0 {tx : List Nat} {L p : Nat} (ht : ∀ i, t9 tx i < 256) (hL : tx.length ≤ L) {c : Nat} {l : List Nat} (h : SF tx p (c :: l)) (hc : ¬ c = 32 ∧ ¬ c = 10) : tA (T9 tx) L p = p := by
  have h1 := h.len
  simp only [List.length_cons] at h1
  have h2 : t9 tx (p + 0) = c := h.at (by simp)
  unfold tA
  refine rn_is 0 p (fun i hi => absurd hi (by omega)) (fun _ => ?_) (by omega)
  unfold sB
  simp only [nI_t tx ht, h2, Bool.or_eq_false_iff, decide_eq_false_iff_not]
  omega
theorem tA_1 {tx : List Nat} {L p : Nat} (ht : ∀ i, t9 tx i < 256) (hL : tx.length ≤ L) {c : Nat} {l : List Nat} (h : SF tx p (32 :: c :: l)) (hc : ¬ c = 32 ∧ ¬ c = 10) : tA (T9 tx) L p = p + 1 := by
  have h1 := h.len
  simp only [List.length_cons] at h1
  have h2 : t9 tx (p + 0) = 32 := h.at (by simp)
  have h3 : t9 tx (p + 1) = c := h.at (by simp)
  unfold tA
  refine rn_is 1 p (fun i hi => ?_) (fun _ => ?_) (by omega)
  · unfold sB
    rw [show i = 0 by omega]
    simp only [nI_t tx ht, h2]
    rfl
  · unfold sB
    simp only [nI_t tx ht, h3, Bool.or_eq_false_iff, decide_eq_false_iff_not]
    omega
theorem tok_word {tx : List Nat} {L p : Nat} (ht : ∀ i, t9 tx i < 256) (hL : tx.length ≤ L) {w l : List Nat} (h : SF tx p (w ++ 32 :: l)) (hw : w ≠ []) (hl : ∀ i, i < w.length → 97 ≤ w.getD i 0 ∧ w.getD i 0 ≤ 122) : tE (T9 tx) L p = p + w.length ∧ isw (T9 tx) L p (w.map nI) = true := by
  have h1 := h.len
  simp only [List.length_append, List.length_cons] at h1
  have hwl : 0 < w.length := List.length_pos_iff.mpr hw
  have hat : ∀ i, i < w.length → t9 tx (p + i) = w.getD i 0 := fun i hi => by
    rw [h.at (by rw [List.length_append]; omega)]
    simp [List.getD, List.getElem?_append_left hi]
  have h32 : t9 tx (p + w.length) = 32 := by
    rw [h.at (by simp)]
    simp [List.getD]
  have hA : tA (T9 tx) L p = p := by
    cases w with
    | nil => exact absurd rfl hw
    | cons c w =>
      have := hl 0 hwl
      have e : (c :: w).getD 0 0 = c := rfl
      rw [e] at this
      exact tA_0 ht hL h (by omega)
  have hb : ∀ i, i < w.length → lB (T9 tx (p + i)) = true := fun i hi => by
    have := hl i hi
    unfold lB
    simp only [nI_t tx ht, hat i hi, Bool.and_eq_true, decide_eq_true_eq]
    omega
  have hb0 : lB (T9 tx p) = true := hb 0 hwl
  have hE : tE (T9 tx) L p = p + w.length := by
    unfold tE tEa
    rw [hA, if_pos (by omega), if_pos hb0]
    refine rn_is w.length p hb (fun _ => ?_) (by omega)
    unfold lB
    simp only [nI_t tx ht, h32]
    rfl
  refine ⟨hE, ?_⟩
  have hK : tK (T9 tx) L p = 0 := by
    unfold tK tKa
    rw [hA, if_pos (by omega), if_pos hb0]
  unfold isw
  rw [hK, hE, hA]
  simp only [decide_true, Bool.true_and, List.length_map, Bool.and_eq_true, decide_eq_true_eq]
  refine ⟨by omega, wm_ok _ _ (fun j _ hj => ?_)⟩
  rw [show T9 tx (p + j) = nI (t9 tx (p + j)) from rfl, hat j (by omega)]
  simp [List.getD, show j < w.length by omega]
theorem tok_semi {tx : List Nat} {L p : Nat} (ht : ∀ i, t9 tx i < 256) (hL : tx.length ≤ L) {l : List Nat} (h : SF tx p (59 :: l)) : tK (T9 tx) L p = 2 ∧ tE (T9 tx) L p = p + 1 := by
  have h1 := h.len
  simp only [List.length_cons] at h1
  have h2 : t9 tx (p + 0) = 59 := h.at (by simp)
  have hA := tA_0 ht hL h (by decide)
  have e1 : lB (T9 tx p) = false := by unfold lB; simp only [nI_t tx ht, show t9 tx p = 59 from h2]; rfl
  have e2 : dB (T9 tx p) = false := by unfold dB; simp only [nI_t tx ht, show t9 tx p = 59 from h2]; rfl
  have e3 : (T9 tx p).toInt = 59 := by rw [nI_t tx ht, show t9 tx p = 59 from h2]; rfl
  have hlt : p < L := by omega
  refine ⟨?_, ?_⟩
  · unfold tK tKa
    rw [hA, if_pos hlt, e1, if_neg Bool.false_ne_true, e2, if_neg Bool.false_ne_true, if_pos e3]
  · unfold tE tEa
    rw [hA, if_pos hlt, e1, if_neg Bool.false_ne_true, e2, if_neg Bool.false_ne_true]
theorem tok_end {tx : List Nat} {L p : Nat} (ht : ∀ i, t9 tx i < 256) (hL : tx.length ≤ L) (h : SF tx p []) : tK (T9 tx) L p = 3 := by
  have h1 := h.len
  simp only [List.length_nil] at h1
  have hA : tA (T9 tx) L p = L := by
    unfold tA
    have := rn_is (P := fun i => sB (T9 tx i)) (L := L) (L - p) p (fun i hi => by
      unfold sB
      simp only [nI_t tx ht, t9_out (show tx.length ≤ p + i by omega)]
      rfl) (fun h => absurd h (by omega)) (by omega)
    rw [this]
    omega
  unfold tK tKa
  rw [hA, if_neg (by omega)]
theorem va_dgs : ∀ x : Fin 100, ((dgs x.1).length = 1 ∧ (dgs x.1).getD 0 0 = 48 + x.1 ∧ (0 * 10 + nI (48 + x.1) - 48 = nI x.1)) ∨ ((dgs x.1).length = 2 ∧ (dgs x.1).getD 0 0 = 48 + x.1 / 10 ∧ (dgs x.1).getD 1 0 = 48 + x.1 % 10 ∧ (0 * 10 + nI (48 + x.1 / 10) - 48) * 10 + nI (48 + x.1 % 10) - 48 = nI x.1) := by decide +kernel
theorem dgs_d : ∀ x : Fin 100, ∀ i : Fin 2, i.1 < (dgs x.1).length → 48 ≤ (dgs x.1).getD i.1 0 ∧ (dgs x.1).getD i.1 0 ≤ 57 := by decide +kernel
theorem tok_num {tx : List Nat} {L p : Nat} (ht : ∀ i, t9 tx i < 256) (hL : tx.length ≤ L) {x c : Nat} {l : List Nat} (h : SF tx p (32 :: (dgs x ++ c :: l))) (hx : x < 100) (hc : c = 32 ∨ c = 59) : tK (T9 tx) L p = 1 ∧ tV (T9 tx) L p = nI x ∧ tE (T9 tx) L p = p + 1 + (dgs x).length := by
  have h1 := h.len
  simp only [List.length_append, List.length_cons] at h1
  have hd2 := dgs_2 x
  have hs := h.adv1
  have hat : ∀ i, i < (dgs x).length → t9 tx (p + 1 + i) = (dgs x).getD i 0 := fun i hi => by
    rw [hs.at (by rw [List.length_append]; omega)]
    simp [List.getD, List.getElem?_append_left hi]
  have hcc : t9 tx (p + 1 + (dgs x).length) = c := by
    rw [hs.at (by simp)]
    simp [List.getD]
  have hdg : ∀ i, i < (dgs x).length → dB (T9 tx (p + 1 + i)) = true ∧ lB (T9 tx (p + 1 + i)) = false := fun i hi => by
    have := dgs_d ⟨x, hx⟩ ⟨i, by omega⟩ hi
    unfold dB lB
    simp only [nI_t tx ht, hat i hi, Bool.and_eq_true, decide_eq_true_eq, Bool.and_eq_false_iff, decide_eq_false_iff_not]
    simp only [] at this
    omega
  have hA : tA (T9 tx) L p = p + 1 := by
    have h0 : 48 ≤ (dgs x).getD 0 0 ∧ (dgs x).getD 0 0 ≤ 57 := dgs_d ⟨x, hx⟩ 0 (show 0 < (dgs x).length by omega)
    have hd0 := hat 0 (by omega)
    generalize hD : dgs x = D at *
    cases D with
    | nil => simp at hd2
    | cons d D =>
      have e : (d :: D).getD 0 0 = d := rfl
      have e2 : 48 ≤ d ∧ d ≤ 57 := h0
      exact tA_1 ht hL h (by omega)
  have hdd : dB (T9 tx (p + 1)) = true := (hdg 0 (by omega)).1
  have hdl : lB (T9 tx (p + 1)) = false := (hdg 0 (by omega)).2
  have hE : tE (T9 tx) L p = p + 1 + (dgs x).length := by
    unfold tE tEa
    rw [hA, if_pos (by omega), hdl, if_neg Bool.false_ne_true, if_pos hdd]
    refine rn_is (dgs x).length (p + 1) (fun i hi => (hdg i hi).1) (fun _ => ?_) (by omega)
    unfold dB
    simp only [nI_t tx ht, hcc]
    rcases hc with rfl | rfl <;> rfl
  have hEa : tEa (T9 tx) L (p + 1) = p + 1 + (dgs x).length := by rw [← hE]; unfold tE; rw [hA]
  refine ⟨?_, ?_, hE⟩
  · unfold tK tKa
    rw [hA, if_pos (by omega), hdl, if_neg Bool.false_ne_true, if_pos hdd, hEa, if_pos (by omega)]
  · unfold tV
    rw [hE, hA, show p + 1 + (dgs x).length - (p + 1) = (dgs x).length by omega]
    have q0 := hat 0 (by omega)
    rcases va_dgs ⟨x, hx⟩ with ⟨a1, a2, a3⟩ | ⟨a1, a2, a3, a4⟩
    · simp only [] at a1 a2 a3
      rw [a1, va, va, show T9 tx (p + 1 + 0) = nI (t9 tx (p + 1 + 0)) from rfl, q0, a2]
      exact a3
    · simp only [] at a1 a2 a3 a4
      have q1 := hat 1 (by omega)
      rw [a1, va, va, va, show T9 tx (p + 1 + 0) = nI (t9 tx (p + 1 + 0)) from rfl, show T9 tx (p + 1 + 1) = nI (t9 tx (p + 1 + 1)) from rfl, q0, q1, a2, a3]
      exact a4
theorem rem_11 {σ : Sig} {G : Gd} (hs : HS σ []) (hi : Iv G) : ∃ σ1, f5_remember 8 (xg σ 8 G) = some (xg σ1 8 G) ∧ HS σ1 [] ∧ σ1 11 = σ 11 := by
  obtain ⟨σ1, q1, hs1, -⟩ := rem_67 hs hi (Nat.zero_le _)
  refine ⟨σ1, q1, hs1.nil, ?_⟩
  obtain ⟨c, x, h1, h2, h3, h4, h5, h6⟩ := hs
  have e9 : xg σ 8 G (8 + 1) = G := funext fun c => xg_at σ 8 G c
  obtain ⟨H', q, a⟩ := x_copy (σ := xg σ 8 G) (n := x) (n1 := 8) (H := xg σ 8 G (x + 1)) (by omega) e9 hi
  rw [xg_self] at q
  have e1 : (Int32.ofNat x).toInt = x := oN x (by omega)
  have hq : f5_remember 8 (xg σ 8 G) = some (up (up (xg (xg σ 8 G) x H') 0 1 2 (Int32.ofNat ((x + 1) % 8))) 0 1 1 (Int32.ofNat (min (c + 1) 8))) := by
    unfold f5_remember
    simp only [nm_ap, xg_0, h2]
    rw [alr_in (by omega), e1, Int.toNat_natCast, q]
    simp only [nm_ap, bnd_ap, bns_ap, bnx_ap0, bnx_ap1, bnx_ap2, bnx_ap3, bnx_ap4, gz_0, gz_1, dvd_96, dvd_2, dvd_10000, rmd_96, rmd_8, xg_at, xg_0, mr_at, up_xg, up_mr, narz_0, narz_1, i10, i01, i11, i00, ↓reduceIte, e10, e01, e50, e51, e20, e60, e70, e30, e40, Classical.not_not, not_true_eq_false, not_false_eq_true, h2, oN1, rm8 (show x + 1 < 16 by omega)]
    rw [show up (xg (xg σ 8 G) x H') 0 1 2 (Int32.ofNat ((x + 1) % 8)) 0 1 1 = σ 0 1 1 from by rw [up_self, upd_ne _ _ (by decide), xg_0, xg_0], h1, min8 h3]
  rw [q1] at hq
  funext c'
  have z := congrFun (congrFun (Option.some.inj hq) 11) c'
  rw [xg_ne _ _ _ (by omega), up_ne _ _ _ (by omega), up_ne _ _ _ (by omega), xg_ne _ _ _ (by omega), xg_ne _ _ _ (by omega)] at z
  exact z
