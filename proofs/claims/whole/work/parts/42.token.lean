/-! THE MATHEMATICS, 23: words, numbers, errors -/
theorem bt_l {x y : Int32} (h : bt x y) (hy : lB y = true ∨ dB y = true) : x = y := by
  unfold lB dB at hy
  simp only [Bool.and_eq_true, decide_eq_true_eq] at hy
  rcases h with h | h
  · exact h.2.2
  · omega
def wm (T : Nat → Int32) (s : List Int32) (a : Nat) : Nat → Nat → Bool
  | 0, _ => true
  | n + 1, i => if T (a + i) = s.getD i 0 then wm T s a n (i + 1) else false
def isw (T : Nat → Int32) (L p : Nat) (s : List Int32) : Bool := decide (tK T L p = 0) && decide (tE T L p - tA T L p = s.length) && wm T s (tA T L p) s.length 0
abbrev XP (T : Nat → Int32) (L : Nat) (σ : Sig) (p : Nat) (x o : Int32) : Sig := XB σ (Int32.ofNat (tK T L p)) (Int32.ofNat (tA T L p)) (Int32.ofNat (tE T L p)) x o
abbrev MP (T : Nat → Int32) (L : Nat) (τ : Sig) (p : Nat) (f x o : Int32) : Sig := MB τ (Int32.ofNat (tA T L p)) (Int32.ofNat (tE T L p)) (kM (tK T L p)) f x o
theorem tK_lt (T : Nat → Int32) (L p : Nat) : tK T L p < 5 := by
  unfold tK tKa
  repeat' split
  all_goals decide
theorem kd {k j : Nat} (hk : k < 5) (hj : j < 5) : (Int32.ofNat k = Int32.ofNat j) ↔ k = j := ⟨fun h => by have := congrArg Int32.toInt h; rw [oN k (by omega), oN j (by omega)] at this; omega, fun h => by rw [h]⟩
theorem kd0 (T : Nat → Int32) (L p : Nat) : (Int32.ofNat (tK T L p) = 0) ↔ tK T L p = 0 := kd (j := 0) (tK_lt T L p) (by decide)
theorem kd1 (T : Nat → Int32) (L p : Nat) : (Int32.ofNat (tK T L p) = 1) ↔ tK T L p = 1 := kd (j := 1) (tK_lt T L p) (by decide)
theorem kd2 (T : Nat → Int32) (L p : Nat) : (Int32.ofNat (tK T L p) = 2) ↔ tK T L p = 2 := kd (j := 2) (tK_lt T L p) (by decide)
theorem kd3 (T : Nat → Int32) (L p : Nat) : (Int32.ofNat (tK T L p) = 3) ↔ tK T L p = 3 := kd (j := 3) (tK_lt T L p) (by decide)
theorem km_all : ∀ k, k < 5 → ((kM k = 3 ↔ k = 0) ∧ (kM k = 2 ↔ k = 1) ∧ (kM k = 1 ↔ k = 2) ∧ (kM k = 0 ↔ k = 3)) := by decide
theorem km3 (T : Nat → Int32) (L p : Nat) : (kM (tK T L p) = 3) ↔ tK T L p = 0 := (km_all _ (tK_lt T L p)).1
theorem km2 (T : Nat → Int32) (L p : Nat) : (kM (tK T L p) = 2) ↔ tK T L p = 1 := (km_all _ (tK_lt T L p)).2.1
theorem km1 (T : Nat → Int32) (L p : Nat) : (kM (tK T L p) = 1) ↔ tK T L p = 2 := (km_all _ (tK_lt T L p)).2.2.1
theorem km0 (T : Nat → Int32) (L p : Nat) : (kM (tK T L p) = 0) ↔ tK T L p = 3 := (km_all _ (tK_lt T L p)).2.2.2
theorem strL : ∀ k, k < 30 → (strB k).length < 240 := by decide +kernel
theorem x_word_l {T : Nat → Int32} {L : Nat} {σ : Sig} (hT : TX T L σ) (G : Gd) {p : Nat} (hp : p ≤ L) (x o : Int32) {k : Nat} (h0 : tK T L p = 0) (hl : tE T L p - tA T L p = (strB k).length) : ∀ (fu i : Nat), i ≤ (strB k).length → (strB k).length < fu + i → f6_isWord_b27 k fu (Int32.ofNat i) (xg (XP T L σ p x o) 10 G) = some (if wm T (strB k) (tA T L p) ((strB k).length - i) i = true then 1 else 0) := by
  have h5 := hT.2.1
  have hE := tE_le T hp
  have hg := tEa_ge T L (tA T L p)
  have hw := tEa_word T L (tA T L p) h0
  intro fu
  induction fu with
  | zero => intro i h1 h2; omega
  | succ fu ih =>
    intro i h1 h2
    have hEE : tE T L p = tEa T L (tA T L p) := rfl
    have ei := oN i (by omega)
    have el := oN (strB k).length (by omega)
    rw [f6_isWord_b27]
    simp only [nm_eq, xg_0, XB_43, XB_5, ← Int32.ofNat_add]
    by_cases c : (strB k).length ≤ i
    · rw [if_pos (by rw [Int32.le_iff_toInt_le, el, ei]; omega), show (strB k).length - i = 0 from by omega, wm, if_pos rfl]
    · have ea := oN (tA T L p + i) (by omega)
      rw [if_neg (by rw [Int32.le_iff_toInt_le, el, ei]; omega), ald_in (by rw [ea]; omega), ald_in (by rw [ei]; omega)]
      simp only [ea, ei, Int.toNat_natCast]
      have hq : σ 0 5 (tA T L p + i) = T (tA T L p + i) := bt_l (hT.2.2 _ (by omega)) (Or.inl (hw _ (by omega) (by omega)))
      rw [hq, show (strB k).length - i = ((strB k).length - (i + 1)) + 1 from by omega, wm, show strA k i = (strB k).getD i 0 from rfl]
      by_cases c2 : T (tA T L p + i) = (strB k).getD i 0
      · rw [if_pos c2, if_pos c2, oN1]
        exact ih (i + 1) (by omega) (by omega)
      · rw [if_neg c2, if_neg c2]
        rfl
theorem x_isWord {T : Nat → Int32} {L : Nat} {σ : Sig} (hT : TX T L σ) (G : Gd) {p : Nat} (hp : p ≤ L) (x o : Int32) {k : Nat} (hk : k < 30) : f6_isWord k (xg (XP T L σ p x o) 10 G) = some (if isw T L p (strB k) = true then 1 else 0) := by
  have h5 := hT.2.1
  have hE := tE_le T hp
  have hg := tEa_ge T L (tA T L p)
  have hEE : tE T L p = tEa T L (tA T L p) := rfl
  have hs := strL k hk
  unfold f6_isWord isw
  simp only [nm_eq, xg_0, XB_42, XB_43, XB_44, kd0]
  by_cases c : tK T L p = 0
  · rw [if_pos c]
    rw [← Int32.ofNat_sub _ _ (by omega)]
    by_cases c2 : tE T L p - tA T L p = (strB k).length
    · rw [if_pos (by rw [c2]), show (0 : Int32) = Int32.ofNat 0 from rfl, x_word_l hT G hp x o c c2 FU 0 (by omega) (by unfold FU; omega)]
      simp only [c, c2, decide_true, Bool.true_and, Nat.sub_zero]
      rfl
    · rw [if_neg (fun e => c2 (by have h := congrArg Int32.toInt e; rw [oN _ (by omega), oN _ (by omega)] at h; omega))]
      simp only [c2, decide_false, Bool.false_and, Bool.and_false, Bool.false_eq_true, ↓reduceIte]
  · rw [if_neg c]
    simp only [c, decide_false, Bool.false_and, Bool.false_eq_true, ↓reduceIte]
theorem m_word0 (k : Nat) (σ : Sig) : f12_isWord_b35 k σ = some 0 := by
  unfold f12_isWord_b35 f12_isWord_b36
  rw [show FU = 999 + 1 from rfl, f12_isWord_b39, if_pos rfl]
  rfl
theorem mw_l {T : Nat → Int32} {L : Nat} {τ : Sig} (hT : TM T L τ) (w : Rw) {p : Nat} (hp : p ≤ L) (f x o : Int32) {k : Nat} (hl : tE T L p - tA T L p = (strB k).length) : ∀ (fu i : Nat), i ≤ (strB k).length → (strB k).length + 1 < fu + i → f12_isWord_b39 k fu 1 (Int32.ofNat i) (mr (MP T L τ p f x o) w) = some (if wm T (strB k) (tA T L p) ((strB k).length - i) i = true then 1 else 0) := by
  have h5 := hT.2.1
  have hE := tE_le T hp
  have hg := tEa_ge T L (tA T L p)
  intro fu
  induction fu with
  | zero => intro i h1 h2; omega
  | succ fu ih =>
    intro i h1 h2
    have hEE : tE T L p = tEa T L (tA T L p) := rfl
    have ei := oN i (by omega)
    have el := oN (strB k).length (by omega)
    rw [f12_isWord_b39]
    unfold f12_isWord_b75
    simp only [nm_eq, th_mr, MB_12, MB_5, hT.2.2.1, ← Int32.ofNat_add, e10, if_false, gz_1]
    by_cases c : (strB k).length ≤ i
    · rw [if_pos (by rw [Int32.le_iff_toInt_le, el, ei]; omega), show (strB k).length - i = 0 from by omega, wm, if_pos rfl]
    · have ea := oN (tA T L p + i) (by omega)
      rw [if_neg (by rw [Int32.le_iff_toInt_le, el, ei]; omega), ald_in (by rw [ea]; omega), ald_in (by rw [ei]; omega)]
      simp only [ea, ei, Int.toNat_natCast]
      rw [show (strB k).length - i = ((strB k).length - (i + 1)) + 1 from by omega, wm, show strA k i = (strB k).getD i 0 from rfl]
      by_cases c2 : T (tA T L p + i) = (strB k).getD i 0
      · rw [if_pos c2, if_pos c2, oN1]
        exact ih (i + 1) (by omega) (by omega)
      · rw [if_neg c2, if_neg c2]
        obtain ⟨fu', rfl⟩ : ∃ fu', fu = fu' + 1 := ⟨fu - 1, by omega⟩
        rw [f12_isWord_b39, if_pos rfl]
        rfl
theorem m_isWord {T : Nat → Int32} {L : Nat} {τ : Sig} (hT : TM T L τ) (w : Rw) {p : Nat} (hp : p ≤ L) (f o : Int32) {k : Nat} (hk : k < 30) : f12_isWord k (mr (MP T L τ p f 0 o) w) = some (if isw T L p (strB k) = true then 1 else 0) := by
  have h5 := hT.2.1
  have hE := tE_le T hp
  have hg := tEa_ge T L (tA T L p)
  have hEE : tE T L p = tEa T L (tA T L p) := rfl
  have hs := strL k hk
  unfold f12_isWord isw
  simp only [nm_eq, th_mr, MB_11, MB_12, MB_13, MB_15, km3, ↓reduceIte]
  by_cases c : tK T L p = 0
  · rw [if_pos c]
    rw [← Int32.ofNat_sub _ _ (by omega)]
    by_cases c2 : tE T L p - tA T L p = (strB k).length
    · rw [if_pos (by rw [c2])]
      unfold f12_isWord_b36
      rw [show (0 : Int32) = Int32.ofNat 0 from rfl, mw_l hT w hp f _ o c2 FU 0 (by omega) (by unfold FU; omega)]
      simp only [c, c2, decide_true, Bool.true_and, Nat.sub_zero]
      rfl
    · rw [if_neg (fun e => c2 (by have h := congrArg Int32.toInt e; rw [oN _ (by omega), oN _ (by omega)] at h; omega)), m_word0]
      simp only [c2, decide_false, Bool.false_and, Bool.and_false, Bool.false_eq_true, ↓reduceIte]
  · rw [if_neg c, m_word0]
    simp only [c, decide_false, Bool.false_and, Bool.false_eq_true, ↓reduceIte]
theorem m_isWordx (k : Nat) (τ : Sig) (w : Rw) (a e kk f : Int32) {x : Int32} (o : Int32) (hx : ¬ x = 0) : f12_isWord k (mr (MB τ a e kk f x o) w) = some 0 := by
  unfold f12_isWord
  simp only [nm_eq, th_mr, MB_15]
  rw [if_neg hx, m_word0]
/-- errors -/
def ex (x k : Int32) : Int32 := if x = 0 then k else x
def eo (x o a : Int32) : Int32 := if x = 0 then a else o
theorem x_fail (σ : Sig) (G : Gd) (k a e x o c : Int32) : f9_fail c (xg (XB σ k a e x o) 10 G) = some (xg (XB σ k a e (ex x c) (eo x o a)) 10 G) := by
  unfold f9_fail ex eo
  simp only [nm_eq, xg_0, XB_32, XB_43, up_xg0, XB_u32, XB_u33]
  by_cases h : x = 0
  · rw [if_pos h, if_pos h, if_pos h]
  · rw [if_neg h, if_neg h, if_neg h]
theorem m_fail (τ : Sig) (w : Rw) (a e k f x o c : Int32) : f12_fail c (mr (MB τ a e k f x o) w) = some (mr (MB τ a e k f (ex x c) (eo x o a)) w) := by
  unfold f12_fail ex eo
  simp only [nm_eq, th_mr, MB_15, MB_12, up_mr0, MB_u15, MB_u16]
  by_cases h : x = 0
  · rw [if_pos h, if_pos h, if_pos h]
  · rw [if_neg h, if_neg h, if_neg h]
theorem ex0 (k : Int32) : ex 0 k = k := if_pos rfl
theorem eo0 (o a : Int32) : eo 0 o a = a := if_pos rfl
theorem exn {x : Int32} (k : Int32) (h : ¬ x = 0) : ex x k = x := if_neg h
theorem eon {x : Int32} (o a : Int32) (h : ¬ x = 0) : eo x o a = o := if_neg h
theorem m_good (τ : Sig) (w : Rw) (a e k f x o : Int32) : f12_good (mr (MB τ a e k f x o) w) = some (if x = 0 then 1 else 0) := by
  unfold f12_good
  simp only [nm_eq, th_mr, MB_15]
  split <;> rfl
theorem m_adv {T : Nat → Int32} {L : Nat} {τ : Sig} (hT : TM T L τ) (w : Rw) {p : Nat} (hp : p ≤ L) (f o : Int32) : f12_advance (mr (MP T L τ p f 0 o) w) = some (mr (MP T L τ (tE T L p) (tF T L (tE T L p) f) 0 o) w) := by
  unfold f12_advance
  rw [m_good]
  simp only [bnd_eq, e10, ↓reduceIte]
  rw [m_scan hT w _ _ _ _ _ (tE_le T hp)]
  rfl
theorem m_advx (τ : Sig) (w : Rw) (a e k f : Int32) {x : Int32} (o : Int32) (hx : ¬ x = 0) : f12_advance (mr (MB τ a e k f x o) w) = some (mr (MB τ a e k f x o) w) := by
  unfold f12_advance
  rw [m_good, if_neg hx]
  simp only [bnd_eq, ↓reduceIte]
/-- a number's value -/
theorem x_val_l {T : Nat → Int32} {L : Nat} {σ : Sig} (hT : TX T L σ) (G : Gd) {p : Nat} (hp : p ≤ L) (x o : Int32) (h1 : tK T L p = 1) : ∀ (fu i : Nat), i ≤ tE T L p - tA T L p → tE T L p - tA T L p < fu + i → f6_valueOfNumber_b7 fu (va T (tA T L p) i) (Int32.ofNat (tA T L p + i)) (xg (XP T L σ p x o) 10 G) = some (tV T L p) := by
  have h5 := hT.2.1
  have hE := tE_le T hp
  have hg : tA T L p ≤ tE T L p := tEa_ge T L (tA T L p)
  have hn := (tEa_num T L (tA T L p) h1).2
  intro fu
  induction fu with
  | zero => intro i h1 h2; omega
  | succ fu ih =>
    intro i h1 h2
    have ei := oN (tA T L p + i) (by omega)
    have el := oN (tE T L p) (by omega)
    rw [f6_valueOfNumber_b7]
    simp only [nm_eq, xg_0, XB_44, XB_5, oN1]
    by_cases c : i = tE T L p - tA T L p
    · rw [if_pos (by rw [Int32.le_iff_toInt_le, el, ei]; omega), c]
      rfl
    · rw [if_neg (by rw [Int32.le_iff_toInt_le, el, ei]; omega), ald_in (by rw [ei]; omega)]
      simp only [ei, Int.toNat_natCast]
      have hq : σ 0 5 (tA T L p + i) = T (tA T L p + i) := bt_l (hT.2.2 _ (by omega)) (Or.inr (hn _ (by omega) (show tA T L p + i < tE T L p from by omega)))
      rw [hq]
      exact ih (i + 1) (by omega) (by omega)
theorem x_val {T : Nat → Int32} {L : Nat} {σ : Sig} (hT : TX T L σ) (G : Gd) {p : Nat} (hp : p ≤ L) (x o : Int32) (h1 : tK T L p = 1) : f6_valueOfNumber (xg (XP T L σ p x o) 10 G) = some (tV T L p) := by
  have h4 := (tEa_num T L (tA T L p) h1).1
  have hEE : tE T L p = tEa T L (tA T L p) := rfl
  unfold f6_valueOfNumber
  simp only [nm_eq, xg_0, XB_43]
  exact x_val_l hT G hp x o h1 FU 0 (by omega) (by unfold FU; omega)
theorem x_num {T : Nat → Int32} {L : Nat} {σ : Sig} (hT : TX T L σ) (G : Gd) {p : Nat} (hp : p ≤ L) (lo hi x o : Int32) : f9_numberHere lo hi (xg (XP T L σ p x o) 10 G) = if tK T L p = 1 then (if lo.toInt ≤ (tV T L p).toInt ∧ (tV T L p).toInt ≤ hi.toInt then some (tV T L p, xg (XP T L σ p x o) 10 G) else some (tV T L p, xg (XP T L σ p (ex x 2) (eo x o (Int32.ofNat (tA T L p)))) 10 G)) else some (lo, xg (XP T L σ p (ex x 1) (eo x o (Int32.ofNat (tA T L p)))) 10 G) := by
  unfold f9_numberHere f9_numberHere_b36
  simp only [nm_eq, xg_0, XB_42, kd1, x_fail, bnd_eq]
  by_cases c : tK T L p = 1
  · rw [if_pos c, if_pos c, x_val hT G hp x o c]
    simp only [bnd_eq, Int32.lt_iff_toInt_lt, Int32.le_iff_toInt_le]
    repeat' split
    all_goals first | rfl | (exfalso; omega)
  · rw [if_neg c, if_neg c]
theorem m_num {T : Nat → Int32} {L : Nat} (τ : Sig) (w : Rw) (p : Nat) (lo hi f o : Int32) (hf : tK T L p = 1 → f = tV T L p) : f12_numberHere lo hi (mr (MP T L τ p f 0 o) w) = if tK T L p = 1 then (if lo.toInt ≤ (tV T L p).toInt ∧ (tV T L p).toInt ≤ hi.toInt then some (tV T L p, mr (MP T L τ p f 0 o) w) else some (0, mr (MP T L τ p f 2 (Int32.ofNat (tA T L p))) w)) else some (0, mr (MP T L τ p f 1 (Int32.ofNat (tA T L p))) w) := by
  unfold f12_numberHere f12_numberHere_b32 f12_numberHere_b37
  simp only [nm_eq, th_mr, MB_13, MB_14, km2, m_fail, bnd_eq, m_good, ex0, eo0, ↓reduceIte, e10, e20]
  by_cases c : tK T L p = 1
  · rw [if_pos c, if_pos c, hf c]
    simp only [Int32.lt_iff_toInt_lt, Int32.le_iff_toInt_le]
    repeat' split
    all_goals first | rfl | (exfalso; omega)
  · rw [if_neg c, if_neg c]
theorem m_numx (τ : Sig) (w : Rw) (a e k f : Int32) {x : Int32} (o lo hi : Int32) (hx : ¬ x = 0) : f12_numberHere lo hi (mr (MB τ a e k f x o) w) = some (0, mr (MB τ a e k f x o) w) := by
  unfold f12_numberHere f12_numberHere_b32 f12_numberHere_b37
  simp only [nm_eq, th_mr, MB_13, MB_14, m_fail, bnd_eq, m_good, exn _ hx, eon _ _ hx, if_neg hx, ↓reduceIte]
  repeat' split
  all_goals rfl
