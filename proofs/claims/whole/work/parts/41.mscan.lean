/-! THE MATHEMATICS, 22: the reference reads a token -/
def r0 (r : Nat → Int32) (a e k f x o : Int32) : Nat → Int32 := fun j => if j = 12 then a else if j = 11 then e else if j = 13 then k else if j = 14 then f else if j = 15 then x else if j = 16 then o else r j
def MB (τ : Sig) (a e k f x o : Int32) : Sig := fun g c => if g = 0 ∧ c = 0 then r0 (τ 0 0) a e k f x o else τ g c
theorem MB_00 (τ : Sig) (a e k f x o : Int32) : MB τ a e k f x o 0 0 = r0 (τ 0 0) a e k f x o := rfl
theorem MB_8 (τ : Sig) (a e k f x o : Int32) : MB τ a e k f x o 0 0 8 = τ 0 0 8 := rfl
theorem MB_12 (τ : Sig) (a e k f x o : Int32) : MB τ a e k f x o 0 0 12 = a := rfl
theorem MB_11 (τ : Sig) (a e k f x o : Int32) : MB τ a e k f x o 0 0 11 = e := rfl
theorem MB_13 (τ : Sig) (a e k f x o : Int32) : MB τ a e k f x o 0 0 13 = k := rfl
theorem MB_14 (τ : Sig) (a e k f x o : Int32) : MB τ a e k f x o 0 0 14 = f := rfl
theorem MB_15 (τ : Sig) (a e k f x o : Int32) : MB τ a e k f x o 0 0 15 = x := rfl
theorem MB_16 (τ : Sig) (a e k f x o : Int32) : MB τ a e k f x o 0 0 16 = o := rfl
theorem MB_ne (τ : Sig) (a e k f x o : Int32) {g c : Nat} (h : ¬ (g = 0 ∧ c = 0)) : MB τ a e k f x o g c = τ g c := by
  unfold MB; rw [if_neg h]
theorem MB_5 (τ : Sig) (a e k f x o : Int32) (w : Rw) : mr (MB τ a e k f x o) w 0 5 = τ 0 5 := by
  rw [mr_ne _ _ (by decide), MB_ne _ _ _ _ _ _ _ (by decide)]
theorem MB_self (τ : Sig) : MB τ (τ 0 0 12) (τ 0 0 11) (τ 0 0 13) (τ 0 0 14) (τ 0 0 15) (τ 0 0 16) = τ := by
  funext g c j
  unfold MB r0
  by_cases h : g = 0 ∧ c = 0
  · rw [if_pos h]
    obtain ⟨rfl, rfl⟩ := h
    repeat' split
    all_goals first | rfl | (rename_i h; rw [h])
  · rw [if_neg h]
theorem MB_u12 (τ : Sig) (a e k f x o v : Int32) : up (MB τ a e k f x o) 0 0 12 v = MB τ v e k f x o := by
  funext g c j
  unfold up
  by_cases h : g = 0 ∧ c = 0
  · obtain ⟨rfl, rfl⟩ := h
    rw [if_pos ⟨rfl, rfl⟩, MB_00, MB_00]
    unfold upd r0
    repeat' split
    all_goals first | rfl | contradiction | omega
  · rw [if_neg h, MB_ne _ _ _ _ _ _ _ h, MB_ne _ _ _ _ _ _ _ h]
theorem MB_u11 (τ : Sig) (a e k f x o v : Int32) : up (MB τ a e k f x o) 0 0 11 v = MB τ a v k f x o := by
  funext g c j
  unfold up
  by_cases h : g = 0 ∧ c = 0
  · obtain ⟨rfl, rfl⟩ := h
    rw [if_pos ⟨rfl, rfl⟩, MB_00, MB_00]
    unfold upd r0
    repeat' split
    all_goals first | rfl | contradiction | omega
  · rw [if_neg h, MB_ne _ _ _ _ _ _ _ h, MB_ne _ _ _ _ _ _ _ h]
theorem MB_u13 (τ : Sig) (a e k f x o v : Int32) : up (MB τ a e k f x o) 0 0 13 v = MB τ a e v f x o := by
  funext g c j
  unfold up
  by_cases h : g = 0 ∧ c = 0
  · obtain ⟨rfl, rfl⟩ := h
    rw [if_pos ⟨rfl, rfl⟩, MB_00, MB_00]
    unfold upd r0
    repeat' split
    all_goals first | rfl | contradiction | omega
  · rw [if_neg h, MB_ne _ _ _ _ _ _ _ h, MB_ne _ _ _ _ _ _ _ h]
theorem MB_u14 (τ : Sig) (a e k f x o v : Int32) : up (MB τ a e k f x o) 0 0 14 v = MB τ a e k v x o := by
  funext g c j
  unfold up
  by_cases h : g = 0 ∧ c = 0
  · obtain ⟨rfl, rfl⟩ := h
    rw [if_pos ⟨rfl, rfl⟩, MB_00, MB_00]
    unfold upd r0
    repeat' split
    all_goals first | rfl | contradiction | omega
  · rw [if_neg h, MB_ne _ _ _ _ _ _ _ h, MB_ne _ _ _ _ _ _ _ h]
theorem MB_u15 (τ : Sig) (a e k f x o v : Int32) : up (MB τ a e k f x o) 0 0 15 v = MB τ a e k f v o := by
  funext g c j
  unfold up
  by_cases h : g = 0 ∧ c = 0
  · obtain ⟨rfl, rfl⟩ := h
    rw [if_pos ⟨rfl, rfl⟩, MB_00, MB_00]
    unfold upd r0
    repeat' split
    all_goals first | rfl | contradiction | omega
  · rw [if_neg h, MB_ne _ _ _ _ _ _ _ h, MB_ne _ _ _ _ _ _ _ h]
theorem MB_u16 (τ : Sig) (a e k f x o v : Int32) : up (MB τ a e k f x o) 0 0 16 v = MB τ a e k f x v := by
  funext g c j
  unfold up
  by_cases h : g = 0 ∧ c = 0
  · obtain ⟨rfl, rfl⟩ := h
    rw [if_pos ⟨rfl, rfl⟩, MB_00, MB_00]
    unfold upd r0
    repeat' split
    all_goals first | rfl | contradiction | omega
  · rw [if_neg h, MB_ne _ _ _ _ _ _ _ h, MB_ne _ _ _ _ _ _ _ h]
/-- the reference's text -/
def TM (T : Nat → Int32) (L : Nat) (τ : Sig) : Prop := τ 0 0 8 = Int32.ofNat L ∧ L ≤ 500 ∧ τ 0 5 = T ∧ ∀ i, i < L → 0 ≤ (T i).toInt ∧ (T i).toInt ≤ 255
theorem m_letter_at {T : Nat → Int32} {L : Nat} {τ : Sig} (hT : TM T L τ) (w : Rw) (a e k f x o : Int32) {p : Nat} (hp : p ≤ L) : f12_letterAt (Int32.ofNat p) (mr (MB τ a e k f x o) w) = some (if p < L ∧ lB (T p) = true then 1 else 0) := by
  obtain ⟨hL, h5, h6, h7⟩ := hT
  have ep := oN p (by omega)
  have eL := oN L (by omega)
  have e1 : (97 : Int32).toInt = 97 := rfl
  have e2 : (122 : Int32).toInt = 122 := rfl
  unfold f12_letterAt lB
  simp only [nm_ap, th_mr, MB_8, MB_5, hL, h6, Bool.and_eq_true, decide_eq_true_eq]
  by_cases c : L ≤ p
  · rw [if_pos (by rw [Int32.le_iff_toInt_le, ep, eL]; omega), if_neg (by omega)]
  · rw [if_neg (by rw [Int32.le_iff_toInt_le, ep, eL]; omega), ald_in (by rw [ep]; omega), ald_in (by rw [ep]; omega)]
    simp only [ep, Int.toNat_natCast, Int32.lt_iff_toInt_lt, e1, e2]
    repeat' split
    all_goals first | rfl | (exfalso; omega)
theorem m_digit_at {T : Nat → Int32} {L : Nat} {τ : Sig} (hT : TM T L τ) (w : Rw) (a e k f x o : Int32) {p : Nat} (hp : p ≤ L) : f12_digitAt (Int32.ofNat p) (mr (MB τ a e k f x o) w) = some (if p < L ∧ dB (T p) = true then 1 else 0) := by
  obtain ⟨hL, h5, h6, h7⟩ := hT
  have ep := oN p (by omega)
  have eL := oN L (by omega)
  have e1 : (48 : Int32).toInt = 48 := rfl
  have e2 : (57 : Int32).toInt = 57 := rfl
  unfold f12_digitAt dB
  simp only [nm_ap, th_mr, MB_8, MB_5, hL, h6, Bool.and_eq_true, decide_eq_true_eq]
  by_cases c : L ≤ p
  · rw [if_pos (by rw [Int32.le_iff_toInt_le, ep, eL]; omega), if_neg (by omega)]
  · rw [if_neg (by rw [Int32.le_iff_toInt_le, ep, eL]; omega), ald_in (by rw [ep]; omega), ald_in (by rw [ep]; omega)]
    simp only [ep, Int.toNat_natCast, Int32.lt_iff_toInt_lt, e1, e2]
    repeat' split
    all_goals first | rfl | (exfalso; omega)
theorem m_sp_l {T : Nat → Int32} {L : Nat} {τ : Sig} (hT : TM T L τ) (w : Rw) (a k f x o : Int32) : ∀ (fu p : Nat), p ≤ L → L < fu + p → f12_scan_b0 fu (mr (MB τ a (Int32.ofNat p) k f x o) w) = f12_scan_b52 (mr (MB τ a (Int32.ofNat (tA T L p)) k f x o) w) := by
  obtain ⟨hL, h5, h6, h7⟩ := hT
  intro fu
  induction fu with
  | zero => intro p h1 h2; omega
  | succ fu ih =>
    intro p h1 h2
    have ep := oN p (by omega)
    have eL := oN L (by omega)
    rw [f12_scan_b0]
    simp only [nm_eq, th_mr, MB_8, MB_11, MB_5, hL, h6]
    by_cases c : L ≤ p
    · rw [if_pos (by rw [Int32.le_iff_toInt_le, ep, eL]; omega), show tA T L p = p from rn_end c]
    · rw [if_neg (by rw [Int32.le_iff_toInt_le, ep, eL]; omega), ald_in (by rw [ep]; omega), ald_in (by rw [ep]; omega)]
      simp only [ep, Int.toNat_natCast]
      have hs : (T p = 32 ∨ T p = 10) ↔ sB (T p) = true := by
        unfold sB
        simp only [← Int32.toInt_inj, Int32.reduceToInt, Bool.or_eq_true, decide_eq_true_eq]
      have hr : f12_scan_b39 (f12_scan_b0 fu) (mr (MB τ a (Int32.ofNat p) k f x o) w) = f12_scan_b0 fu (mr (MB τ a (Int32.ofNat (p + 1)) k f x o) w) := by
        unfold f12_scan_b39
        simp only [nm_eq, up_mr0, th_mr, MB_11, MB_u11, oN1]
      by_cases c2 : sB (T p) = true
      · have hA : tA T L p = tA T L (p + 1) := rn_step (P := fun i => sB (T i)) (by omega) c2
        rw [hr, ih (p + 1) (by omega) (by omega), hA]
        rcases hs.mpr c2 with q | q
        · rw [if_pos q]
        · by_cases q0 : T p = 32
          · rw [if_pos q0]
          · rw [if_neg q0, if_pos q]
      · have hA : tA T L p = p := rn_stop (P := fun i => sB (T i)) (by simpa using c2)
        rw [if_neg (fun q => c2 (hs.mp (Or.inl q))), if_neg (fun q => c2 (hs.mp (Or.inr q))), hA]
theorem m_word_l {T : Nat → Int32} {L : Nat} {τ : Sig} (hT : TM T L τ) (w : Rw) (a k f x o : Int32) : ∀ (fu p : Nat), p ≤ L → L < fu + p → f12_scan_b90 fu (mr (MB τ a (Int32.ofNat p) k f x o) w) = some (mr (MB τ a (Int32.ofNat (rn (fun i => lB (T i)) (L - p) p)) 3 f x o) w) := by
  intro fu
  induction fu with
  | zero => intro p h1 h2; omega
  | succ fu ih =>
    intro p h1 h2
    rw [f12_scan_b90]
    simp only [nm_eq, th_mr, MB_11, m_letter_at hT w _ _ _ _ _ _ h1, bnd_eq, up_mr0, MB_u13, MB_u11, oN1]
    by_cases c : p < L ∧ lB (T p) = true
    · rw [if_pos c, if_neg (by decide), ih (p + 1) (by omega) (by omega), rn_step (P := fun i => lB (T i)) c.1 c.2]
    · rw [if_neg c, if_pos rfl]
      by_cases c1 : p < L
      · rw [rn_stop (P := fun i => lB (T i)) (by simpa using fun q => c ⟨c1, q⟩)]
      · rw [rn_end (by omega)]
theorem m_num_l {T : Nat → Int32} {L : Nat} {τ : Sig} (hT : TM T L τ) (w : Rw) (k x o : Int32) {a : Nat} : ∀ (fu p : Nat), a ≤ p → p ≤ L → L < fu + p → f12_scan_b138 fu (mr (MB τ (Int32.ofNat a) (Int32.ofNat p) k (va T a (min 4 (p - a))) x o) w) = some (mr (MB τ (Int32.ofNat a) (Int32.ofNat (rn (fun i => dB (T i)) (L - p) p)) (if rn (fun i => dB (T i)) (L - p) p - a ≤ 4 then 2 else 4) (va T a (min 4 (rn (fun i => dB (T i)) (L - p) p - a))) x o) w) := by
  intro fu
  induction fu with
  | zero => intro p h0 h1 h2; omega
  | succ fu ih =>
    intro p h0 h1 h2
    have h5 := hT.2.1
    have ep := oN p (by omega)
    have ed := oN (p - a) (by omega)
    have e4 : (4 : Int32).toInt = 4 := rfl
    have ih1 := ih (p + 1) (by omega)
    rw [f12_scan_b138]
    simp only [nm_eq, th_mr, MB_11, MB_12, MB_14, MB_5, hT.2.2.1, m_digit_at hT w _ _ _ _ _ _ h1, bnd_eq, ← Int32.ofNat_sub _ _ h0]
    by_cases c : p < L ∧ dB (T p) = true
    · have c1 := ih1 (by omega) (by omega)
      rw [if_pos c, if_neg (by decide), rn_step (P := fun i => dB (T i)) c.1 c.2]
      unfold f12_scan_b190
      simp only [nm_eq, up_mr0, th_mr, MB_11, MB_u14, MB_u11, oN1]
      by_cases c4 : 4 ≤ p - a
      · rw [if_pos (by rw [Int32.le_iff_toInt_le, ed, e4]; omega)]
        rw [show min 4 (p + 1 - a) = min 4 (p - a) from by omega] at c1
        exact c1
      · rw [if_neg (by rw [Int32.le_iff_toInt_le, ed, e4]; omega), ald_in (by rw [ep]; omega)]
        simp only [ep, Int.toNat_natCast]
        rw [show min 4 (p + 1 - a) = min 4 (p - a) + 1 from by omega, va, show a + min 4 (p - a) = p from by omega, Int32.mul_comm] at c1
        exact c1
    · have er : rn (fun i => dB (T i)) (L - p) p = p := by
        by_cases c1 : p < L
        · exact rn_stop (P := fun i => dB (T i)) (by simpa using fun q => c ⟨c1, q⟩)
        · exact rn_end (by omega)
      rw [if_neg c, if_pos rfl, er]
      unfold f12_scan_b225
      simp only [nm_eq, up_mr0, MB_u13]
      by_cases c4 : p - a ≤ 4
      · rw [if_pos (by rw [Int32.le_iff_toInt_le, ed, e4]; omega), if_pos c4]
      · rw [if_neg (by rw [Int32.le_iff_toInt_le, ed, e4]; omega), if_neg c4]
/-- the reference's kinds; its figure -/
def kM (k : Nat) : Int32 := if k = 0 then 3 else if k = 1 then 2 else if k = 2 then 1 else if k = 3 then 0 else 4
def tF (T : Nat → Int32) (L p : Nat) (f : Int32) : Int32 := if tA T L p < L ∧ lB (T (tA T L p)) = false ∧ dB (T (tA T L p)) = true then va T (tA T L p) (min 4 (tE T L p - tA T L p)) else f
theorem tF_num {T : Nat → Int32} {L p : Nat} (f : Int32) (h : tK T L p = 1) : tF T L p f = tV T L p := by
  have h4 := (tEa_num T L (tA T L p) h).1
  unfold tF tV
  unfold tK tKa at h
  by_cases c1 : tA T L p < L
  · rw [if_pos c1] at h
    by_cases c2 : lB (T (tA T L p)) = true
    · rw [if_pos c2] at h; exact absurd h (by decide)
    · rw [if_neg c2] at h
      by_cases c3 : dB (T (tA T L p)) = true
      · rw [if_pos ⟨c1, by simpa using c2, c3⟩]
        unfold tE
        rw [show min 4 (tEa T L (tA T L p) - tA T L p) = tEa T L (tA T L p) - tA T L p from by omega]
      · rw [if_neg c3] at h
        split at h <;> exact absurd h (by decide)
  · rw [if_neg c1] at h; exact absurd h (by decide)
/-- a token is scanned -/
theorem m_scan {T : Nat → Int32} {L : Nat} {τ : Sig} (hT : TM T L τ) (w : Rw) (a k f x o : Int32) {p : Nat} (hp : p ≤ L) : f12_scan (mr (MB τ a (Int32.ofNat p) k f x o) w) = some (mr (MB τ (Int32.ofNat (tA T L p)) (Int32.ofNat (tE T L p)) (kM (tK T L p)) (tF T L p f) x o) w) := by
  have hTT := hT
  obtain ⟨hL, h5, h6, h7⟩ := hT
  have hA := tA_le T hp
  unfold f12_scan
  rw [m_sp_l hTT w a k f x o FU p hp (by unfold FU; omega)]
  unfold tF tE tK
  generalize tA T L p = q at hA ⊢
  have eq := oN q (by omega)
  have eL := oN L (by omega)
  unfold f12_scan_b52
  simp only [nm_eq, up_mr0, th_mr, MB_11, MB_8, MB_u12, MB_u13, MB_u14, hL, m_letter_at hTT w _ _ _ _ _ _ hA, m_digit_at hTT w _ _ _ _ _ _ hA, bnd_eq, MB_5, h6]
  by_cases c : q = L
  · rw [if_pos (by rw [c]), tKa_end T (by omega), if_neg (by omega)]
    unfold tEa
    rw [if_neg (by omega)]
    rfl
  · have cq : q < L := by omega
    rw [if_neg (fun e => c (by have h := congrArg Int32.toInt e; rw [eq, eL] at h; omega))]
    by_cases c2 : lB (T q) = true
    · have e1 : tEa T L q = rn (fun i => lB (T i)) (L - q) q := by unfold tEa; rw [if_pos cq, if_pos c2]
      have e2 : tKa T L q = 0 := by unfold tKa; rw [if_pos cq, if_pos c2]
      rw [if_pos (show q < L ∧ lB (T q) = true from ⟨cq, c2⟩), if_neg (by decide), m_word_l hTT w _ _ _ _ _ FU q hA (by unfold FU; omega), e1, e2, if_neg (show ¬ (q < L ∧ lB (T q) = false ∧ dB (T q) = true) from fun h => by rw [c2] at h; exact absurd h.2.1 (by decide))]
      rfl
    · rw [if_neg (show ¬ (q < L ∧ lB (T q) = true) from fun h => c2 h.2), if_pos rfl]
      by_cases c3 : dB (T q) = true
      · have e1 : tEa T L q = rn (fun i => dB (T i)) (L - q) q := by unfold tEa; rw [if_pos cq, if_neg c2, if_pos c3]
        have e2 : tKa T L q = if tEa T L q - q ≤ 4 then 1 else 4 := by unfold tKa; rw [if_pos cq, if_neg c2, if_pos c3]
        have hn := m_num_l hTT w k x o (a := q) FU q (Nat.le_refl q) hA (by unfold FU; omega)
        rw [show min 4 (q - q) = 0 from by omega, ← e1] at hn
        rw [if_pos (show q < L ∧ dB (T q) = true from ⟨cq, c3⟩), if_neg (by decide), if_pos (show q < L ∧ lB (T q) = false ∧ dB (T q) = true from ⟨cq, by simpa using c2, c3⟩), e2]
        rw [show (0 : Int32) = va T q 0 from rfl, hn]
        split <;> rfl
      · have e1 : tEa T L q = q + 1 := by unfold tEa; rw [if_pos cq, if_neg c2, if_neg c3]
        have e2 : tKa T L q = if (T q).toInt = 59 then 2 else 4 := by unfold tKa; rw [if_pos cq, if_neg c2, if_neg c3]
        rw [if_neg (show ¬ (q < L ∧ dB (T q) = true) from fun h => c3 h.2), if_pos rfl, ald_in (by rw [eq]; omega), if_neg (show ¬ (q < L ∧ lB (T q) = false ∧ dB (T q) = true) from fun h => c3 h.2.2), e1, e2]
        unfold f12_scan_b251
        simp only [eq, Int.toNat_natCast, nm_eq, up_mr0, th_mr, MB_11, MB_u13, MB_u11, oN1, ← Int32.toInt_inj, Int32.reduceToInt]
        by_cases c4 : (T q).toInt = 59
        · rw [if_pos c4, if_pos c4]
          rfl
        · rw [if_neg c4, if_neg c4]
          rfl
