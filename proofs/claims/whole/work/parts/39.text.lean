/-! THE MATHEMATICS, 20: what a text's tokens are; the class reads them so, and the reference too -/
def lB (y : Int32) : Bool := decide (97 ≤ y.toInt) && decide (y.toInt ≤ 122)
def dB (y : Int32) : Bool := decide (48 ≤ y.toInt) && decide (y.toInt ≤ 57)
def sB (y : Int32) : Bool := decide (y.toInt = 32) || decide (y.toInt = 10)
def rn (P : Nat → Bool) : Nat → Nat → Nat
  | 0, p => p
  | n + 1, p => if P p then rn P n (p + 1) else p
theorem rn_step {P : Nat → Bool} {L p : Nat} (h : p < L) (hp : P p = true) : rn P (L - p) p = rn P (L - (p + 1)) (p + 1) := by
  rw [show L - p = (L - (p + 1)) + 1 from by omega, rn, if_pos hp]
theorem rn_stop {P : Nat → Bool} {n p : Nat} (hp : P p = false) : rn P n p = p := by
  cases n with
  | zero => rfl
  | succ n => rw [rn, if_neg (by rw [hp]; exact Bool.false_ne_true)]
theorem rn_end {P : Nat → Bool} {L p : Nat} (h : L ≤ p) : rn P (L - p) p = p := by
  rw [show L - p = 0 from by omega]; rfl
theorem rn_ge (P : Nat → Bool) : ∀ n p, p ≤ rn P n p := by
  intro n
  induction n with
  | zero => intro p; exact Nat.le_refl p
  | succ n ih =>
    intro p
    rw [rn]
    split
    · have := ih (p + 1); omega
    · exact Nat.le_refl p
theorem rn_le (P : Nat → Bool) : ∀ n p, rn P n p ≤ p + n := by
  intro n
  induction n with
  | zero => intro p; exact Nat.le_refl p
  | succ n ih =>
    intro p
    rw [rn]
    split
    · have := ih (p + 1); omega
    · omega
theorem rn_all {P : Nat → Bool} : ∀ n p i, p ≤ i → i < rn P n p → P i = true := by
  intro n
  induction n with
  | zero => intro p i h1 h2; exact absurd (show i < p from h2) (by omega)
  | succ n ih =>
    intro p i h1 h2
    rw [rn] at h2
    split at h2
    · rename_i hp
      by_cases e : i = p
      · rw [e]; exact hp
      · exact ih (p + 1) i (by omega) h2
    · omega
def tA (T : Nat → Int32) (L p : Nat) : Nat := rn (fun i => sB (T i)) (L - p) p
def tEa (T : Nat → Int32) (L a : Nat) : Nat := if a < L then (if lB (T a) then rn (fun i => lB (T i)) (L - a) a else if dB (T a) then rn (fun i => dB (T i)) (L - a) a else a + 1) else a
def tKa (T : Nat → Int32) (L a : Nat) : Nat := if a < L then (if lB (T a) then 0 else if dB (T a) then (if tEa T L a - a ≤ 4 then 1 else 4) else if (T a).toInt = 59 then 2 else 4) else 3
def tE (T : Nat → Int32) (L p : Nat) : Nat := tEa T L (tA T L p)
def tK (T : Nat → Int32) (L p : Nat) : Nat := tKa T L (tA T L p)
def va (T : Nat → Int32) (a : Nat) : Nat → Int32
  | 0 => 0
  | n + 1 => va T a n * 10 + T (a + n) - 48
def tV (T : Nat → Int32) (L p : Nat) : Int32 := va T (tA T L p) (tE T L p - tA T L p)
theorem tA_ge (T : Nat → Int32) (L p : Nat) : p ≤ tA T L p := rn_ge _ _ _
theorem tA_le (T : Nat → Int32) {L p : Nat} (h : p ≤ L) : tA T L p ≤ L := by
  have := rn_le (fun i => sB (T i)) (L - p) p
  unfold tA; omega
theorem tEa_ge (T : Nat → Int32) (L a : Nat) : a ≤ tEa T L a := by
  unfold tEa
  have h1 := rn_ge (fun i => lB (T i)) (L - a) a
  have h2 := rn_ge (fun i => dB (T i)) (L - a) a
  repeat' split
  all_goals omega
theorem tEa_le (T : Nat → Int32) {L a : Nat} (h : a ≤ L) : tEa T L a ≤ L := by
  unfold tEa
  have h1 := rn_le (fun i => lB (T i)) (L - a) a
  have h2 := rn_le (fun i => dB (T i)) (L - a) a
  repeat' split
  all_goals omega
theorem tE_ge (T : Nat → Int32) (L p : Nat) : p ≤ tE T L p := Nat.le_trans (tA_ge T L p) (tEa_ge T L _)
theorem tE_le (T : Nat → Int32) {L p : Nat} (h : p ≤ L) : tE T L p ≤ L := tEa_le T (tA_le T h)
theorem tEa_num (T : Nat → Int32) (L a : Nat) (h : tKa T L a = 1) : tEa T L a - a ≤ 4 ∧ ∀ i, a ≤ i → i < tEa T L a → dB (T i) = true := by
  unfold tKa at h
  split at h
  · rename_i c1
    split at h
    · exact absurd h (by decide)
    · rename_i c2
      split at h
      · rename_i c3
        split at h
        · rename_i c4
          refine ⟨c4, fun i h1 h2 => ?_⟩
          unfold tEa at h2
          rw [if_pos c1, if_neg c2, if_pos c3] at h2
          exact rn_all _ _ i h1 h2
        · exact absurd h (by decide)
      · split at h
        · exact absurd h (by decide)
        · exact absurd h (by decide)
  · exact absurd h (by decide)
theorem tEa_word (T : Nat → Int32) (L a : Nat) (h : tKa T L a = 0) : ∀ i, a ≤ i → i < tEa T L a → lB (T i) = true := by
  unfold tKa at h
  split at h
  · rename_i c1
    split at h
    · rename_i c2
      intro i h1 h2
      unfold tEa at h2
      rw [if_pos c1, if_pos c2] at h2
      exact rn_all _ _ i h1 h2
    · split at h
      · split at h
        · exact absurd h (by decide)
        · exact absurd h (by decide)
      · split at h
        · exact absurd h (by decide)
        · exact absurd h (by decide)
  · exact absurd h (by decide)
theorem tKa_semi (T : Nat → Int32) (L a : Nat) (h : tKa T L a = 2) : a < L ∧ tEa T L a = a + 1 := by
  unfold tKa at h
  split at h
  · rename_i c1
    split at h
    · exact absurd h (by decide)
    · rename_i c2
      split at h
      · split at h
        · exact absurd h (by decide)
        · exact absurd h (by decide)
      · rename_i c3
        exact ⟨c1, by unfold tEa; rw [if_pos c1, if_neg c2, if_neg c3]⟩
  · exact absurd h (by decide)
theorem tKa_gt (T : Nat → Int32) (L a : Nat) (h : ¬ tKa T L a = 3) : a < tEa T L a ∧ a < L := by
  unfold tKa at h
  by_cases c1 : a < L
  · refine ⟨?_, c1⟩
    unfold tEa
    rw [if_pos c1]
    by_cases c2 : lB (T a) = true
    · rw [if_pos c2, rn_step c1 c2]
      have := rn_ge (fun i => lB (T i)) (L - (a + 1)) (a + 1)
      omega
    · rw [if_neg c2]
      by_cases c3 : dB (T a) = true
      · rw [if_pos c3, rn_step c1 c3]
        have := rn_ge (fun i => dB (T i)) (L - (a + 1)) (a + 1)
        omega
      · rw [if_neg c3]; omega
  · rw [if_neg c1] at h; exact absurd rfl h
theorem tKa_end (T : Nat → Int32) {L a : Nat} (h : L ≤ a) : tKa T L a = 3 := by
  unfold tKa; rw [if_neg (by omega)]
/-- the class's state while a script runs: kind, start, end of the token; the error -/
def r4 (r : Nat → Int32) (k a e : Int32) : Nat → Int32 := fun j => if j = 2 then k else if j = 3 then a else if j = 4 then e else r j
def r3 (r : Nat → Int32) (x o : Int32) : Nat → Int32 := fun j => if j = 2 then x else if j = 3 then o else r j
def XB (σ : Sig) (k a e x o : Int32) : Sig := fun g c => if g = 0 ∧ c = 4 then r4 (σ 0 4) k a e else if g = 0 ∧ c = 3 then r3 (σ 0 3) x o else σ g c
theorem XB_41 (σ : Sig) (k a e x o : Int32) : XB σ k a e x o 0 4 1 = σ 0 4 1 := rfl
theorem XB_42 (σ : Sig) (k a e x o : Int32) : XB σ k a e x o 0 4 2 = k := rfl
theorem XB_43 (σ : Sig) (k a e x o : Int32) : XB σ k a e x o 0 4 3 = a := rfl
theorem XB_44 (σ : Sig) (k a e x o : Int32) : XB σ k a e x o 0 4 4 = e := rfl
theorem XB_32 (σ : Sig) (k a e x o : Int32) : XB σ k a e x o 0 3 2 = x := rfl
theorem XB_33 (σ : Sig) (k a e x o : Int32) : XB σ k a e x o 0 3 3 = o := rfl
theorem XB_ne (σ : Sig) (k a e x o : Int32) {g c : Nat} (h : ¬ (g = 0 ∧ (c = 3 ∨ c = 4))) : XB σ k a e x o g c = σ g c := by
  unfold XB; rw [if_neg (by omega), if_neg (by omega)]
theorem XB_5 (σ : Sig) (k a e x o : Int32) : XB σ k a e x o 0 5 = σ 0 5 := XB_ne σ k a e x o (by decide)
theorem XB_g (σ : Sig) (k a e x o : Int32) (n c : Nat) : XB σ k a e x o (n + 1) c = σ (n + 1) c := XB_ne σ k a e x o (by omega)
theorem XB_self (σ : Sig) : XB σ (σ 0 4 2) (σ 0 4 3) (σ 0 4 4) (σ 0 3 2) (σ 0 3 3) = σ := by
  funext g c j
  unfold XB r4 r3
  by_cases h : g = 0 ∧ c = 4
  · rw [if_pos h]
    obtain ⟨rfl, rfl⟩ := h
    by_cases h2 : j = 2
    · rw [if_pos h2, h2]
    · rw [if_neg h2]
      by_cases h3 : j = 3
      · rw [if_pos h3, h3]
      · rw [if_neg h3]
        by_cases h4 : j = 4
        · rw [if_pos h4, h4]
        · rw [if_neg h4]
  · rw [if_neg h]
    by_cases h5 : g = 0 ∧ c = 3
    · rw [if_pos h5]
      obtain ⟨rfl, rfl⟩ := h5
      by_cases h2 : j = 2
      · rw [if_pos h2, h2]
      · rw [if_neg h2]
        by_cases h3 : j = 3
        · rw [if_pos h3, h3]
        · rw [if_neg h3]
    · rw [if_neg h5]
theorem XB_u42 (σ : Sig) (k a e x o v : Int32) : up (XB σ k a e x o) 0 4 2 v = XB σ v a e x o := by
  funext g c j
  unfold up
  by_cases h : g = 0 ∧ c = 4
  · obtain ⟨rfl, rfl⟩ := h
    simp only [and_self, ↓reduceIte, upd, XB, r4]
    repeat' split
    all_goals first | rfl | contradiction | omega
  · rw [if_neg h]; simp only [XB, if_neg h]
theorem XB_u43 (σ : Sig) (k a e x o v : Int32) : up (XB σ k a e x o) 0 4 3 v = XB σ k v e x o := by
  funext g c j
  unfold up
  by_cases h : g = 0 ∧ c = 4
  · obtain ⟨rfl, rfl⟩ := h
    simp only [and_self, ↓reduceIte, upd, XB, r4]
    repeat' split
    all_goals first | rfl | contradiction | omega
  · rw [if_neg h]; simp only [XB, if_neg h]
theorem XB_u44 (σ : Sig) (k a e x o v : Int32) : up (XB σ k a e x o) 0 4 4 v = XB σ k a v x o := by
  funext g c j
  unfold up
  by_cases h : g = 0 ∧ c = 4
  · obtain ⟨rfl, rfl⟩ := h
    simp only [and_self, ↓reduceIte, upd, XB, r4]
    repeat' split
    all_goals first | rfl | contradiction | omega
  · rw [if_neg h]; simp only [XB, if_neg h]
theorem XB_u32 (σ : Sig) (k a e x o v : Int32) : up (XB σ k a e x o) 0 3 2 v = XB σ k a e v o := by
  funext g c j
  unfold up
  by_cases h : g = 0 ∧ c = 3
  · obtain ⟨rfl, rfl⟩ := h
    rw [if_pos ⟨rfl, rfl⟩, show XB σ k a e x o 0 3 = r3 (σ 0 3) x o from rfl]
    first | rw [show XB σ k a e v o 0 3 = r3 (σ 0 3) v o from rfl] | rw [show XB σ k a e x v 0 3 = r3 (σ 0 3) x v from rfl]
    unfold upd r3
    repeat' split
    all_goals first | rfl | contradiction | omega
  · rw [if_neg h]; simp only [XB, if_neg h]
theorem XB_u33 (σ : Sig) (k a e x o v : Int32) : up (XB σ k a e x o) 0 3 3 v = XB σ k a e x v := by
  funext g c j
  unfold up
  by_cases h : g = 0 ∧ c = 3
  · obtain ⟨rfl, rfl⟩ := h
    rw [if_pos ⟨rfl, rfl⟩, show XB σ k a e x o 0 3 = r3 (σ 0 3) x o from rfl]
    first | rw [show XB σ k a e v o 0 3 = r3 (σ 0 3) v o from rfl] | rw [show XB σ k a e x v 0 3 = r3 (σ 0 3) x v from rfl]
    unfold upd r3
    repeat' split
    all_goals first | rfl | contradiction | omega
  · rw [if_neg h]; simp only [XB, if_neg h]
/-- the class's text -/
def TX (T : Nat → Int32) (L : Nat) (σ : Sig) : Prop := σ 0 4 1 = Int32.ofNat L ∧ L ≤ 500 ∧ ∀ i, i < L → bt (σ 0 5 i) (T i)
theorem bt_s {x y : Int32} (h : bt x y) : (x = 32 ∨ x = 10) ↔ sB y = true := by
  unfold sB bt at *
  simp only [← Int32.toInt_inj, Int32.reduceToInt, Bool.or_eq_true, decide_eq_true_eq]
  rcases h with h | h
  · rw [h.2.2]
  · omega
theorem kind_of {x y : Int32} (h : bt x y) : f6_kindOf x = some (if lB y then 0 else if dB y then 1 else if y.toInt = 59 then 2 else 4) := by
  unfold f6_kindOf f6_kindOf_b14 f6_kindOf_b28 lB dB
  unfold bt at h
  have e1 : (97 : Int32).toInt = 97 := rfl
  have e2 : (122 : Int32).toInt = 122 := rfl
  have e3 : (48 : Int32).toInt = 48 := rfl
  have e4 : (57 : Int32).toInt = 57 := rfl
  have e5 : (59 : Int32).toInt = 59 := rfl
  simp only [Int32.lt_iff_toInt_lt, ← Int32.toInt_inj, Bool.and_eq_true, decide_eq_true_eq, e1, e2, e3, e4, e5]
  rcases h with h | h
  · rw [h.2.2]
    repeat' split
    all_goals first | rfl | (exfalso; omega)
  · repeat' split
    all_goals first | rfl | (exfalso; omega)
theorem bnd_eq {α β : Type} (a : α) (f : α → Option β) : bnd (some a) f = f a := by
  cases h : f a with
  | none => exact h
  | some x => exact h
theorem bns_eq {β : Type} (a : Int32) (s : Sig) (f : Int32 → Sig → Option β) : bns (some (a, s)) f = f a s := by
  cases h : f a s with
  | none => exact h
  | some x => exact h
