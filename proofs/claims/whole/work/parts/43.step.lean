/-! THE MATHEMATICS, 24: both read on together -/
/-- the reference is a token ahead; in step: the same token; an error was found -/
def SA1 (T : Nat → Int32) (L : Nat) (σ τ : Sig) (m : Nat) (X M : Sig) (G : Gd) (w : Rw) : Prop := ∃ p f, m ≤ p ∧ p ≤ L ∧ (tK T L (tE T L p) = 1 → f = tV T L (tE T L p)) ∧ X = xg (XP T L σ p 0 (-1)) 10 G ∧ M = mr (MP T L τ (tE T L p) f 0 (-1)) w
def SN1 (T : Nat → Int32) (L : Nat) (σ τ : Sig) (m : Nat) (X M : Sig) (G : Gd) (w : Rw) : Prop := ∃ p f, m ≤ p ∧ p ≤ L ∧ (tK T L p = 1 → f = tV T L p) ∧ X = xg (XP T L σ p 0 (-1)) 10 G ∧ M = mr (MP T L τ p f 0 (-1)) w
def SB1 (T : Nat → Int32) (L : Nat) (σ τ : Sig) (X M : Sig) (G : Gd) (w : Rw) : Prop := ∃ p a e k f x o, p ≤ L ∧ ¬ x = 0 ∧ X = xg (XP T L σ p x o) 10 G ∧ M = mr (MB τ a e k f x o) w
def St (T : Nat → Int32) (L : Nat) (σ τ : Sig) (m : Nat) (X M : Sig) (G : Gd) (w : Rw) : Prop := SA1 T L σ τ m X M G w ∨ SB1 T L σ τ X M G w
def gd (X : Sig) : Prop := X 0 3 2 = 0
theorem gd_x (σ : Sig) (G : Gd) (k a e x o : Int32) : gd (xg (XB σ k a e x o) 10 G) ↔ x = 0 := by
  unfold gd
  rw [xg_0, XB_32]
theorem St.gx {T : Nat → Int32} {L m : Nat} {σ τ X M : Sig} {G : Gd} {w : Rw} (h : St T L σ τ m X M G w) (c : Nat) : X (10 + 1) c = G c := by
  rcases h with ⟨p, f, _, _, _, hx, _⟩ | ⟨p, a, e, k, f, x, o, _, _, hx, _⟩
  · rw [hx, xg_at]
  · rw [hx, xg_at]
theorem St.wx {T : Nat → Int32} {L m : Nat} {σ τ X M : Sig} {G : Gd} {w : Rw} (h : St T L σ τ m X M G w) : M 0 1 = w := by
  rcases h with ⟨p, f, _, _, _, _, hx⟩ | ⟨p, a, e, k, f, x, o, _, _, _, hx⟩
  · rw [hx, mr_at]
  · rw [hx, mr_at]
theorem m_f12_number_x (τ : Sig) (w : Rw) (a e k f : Int32) {x : Int32} (o lo hi : Int32) (hx : ¬ x = 0) : f12_number lo hi (mr (MB τ a e k f x o) w) = some (0, mr (MB τ a e k f x o) w) := by
  unfold f12_number
  rw [m_numx _ _ _ _ _ _ _ _ _ hx]
  simp only [bns_eq]
  rw [m_advx _ _ _ _ _ _ _ hx]
  simp only [bnd_eq]
  rw [m_good, if_neg hx]
  simp only [bnd_eq, ↓reduceIte]
theorem tF_ok {T : Nat → Int32} {L p : Nat} (f : Int32) : tK T L p = 1 → tF T L p f = tV T L p := fun h => tF_num f h
theorem m_f12_number {T : Nat → Int32} {L : Nat} {τ : Sig} (hT : TM T L τ) (w : Rw) {p : Nat} (hp : p ≤ L) (lo hi f o : Int32) (hf : tK T L p = 1 → f = tV T L p) : f12_number lo hi (mr (MP T L τ p f 0 o) w) = if tK T L p = 1 then (if lo.toInt ≤ (tV T L p).toInt ∧ (tV T L p).toInt ≤ hi.toInt then some (tV T L p, mr (MP T L τ (tE T L p) (tF T L (tE T L p) f) 0 o) w) else some (0, mr (MP T L τ p f 2 (Int32.ofNat (tA T L p))) w)) else some (0, mr (MP T L τ p f 1 (Int32.ofNat (tA T L p))) w) := by
  unfold f12_number
  rw [m_num τ w p lo hi f o hf]
  by_cases c : tK T L p = 1
  · rw [if_pos c, if_pos c]
    by_cases c2 : lo.toInt ≤ (tV T L p).toInt ∧ (tV T L p).toInt ≤ hi.toInt
    · rw [if_pos c2, if_pos c2]
      simp only [bns_eq]
      rw [m_adv hT w hp]
      simp only [bnd_eq]
      rw [m_good]
      simp only [bnd_eq, ↓reduceIte, e10]
    · rw [if_neg c2, if_neg c2]
      simp only [bns_eq]
      rw [m_advx _ _ _ _ _ _ _ (by decide)]
      simp only [bnd_eq]
      rw [m_good]
      simp only [bnd_eq, ↓reduceIte, e20]
  · rw [if_neg c, if_neg c]
    simp only [bns_eq]
    rw [m_advx _ _ _ _ _ _ _ (by decide)]
    simp only [bnd_eq]
    rw [m_good]
    simp only [bnd_eq, ↓reduceIte, e10]
theorem x_next {T : Nat → Int32} {L : Nat} {σ : Sig} (hT : TX T L σ) (G : Gd) {p : Nat} (hp : p ≤ L) (o : Int32) : f6_readNext (xg (XP T L σ p 0 o) 10 G) = some (xg (XP T L σ (tE T L p) 0 o) 10 G) := x_read hT G _ _ _ _ (tE_le T hp)
/-- a number is read -/
theorem St.num {T : Nat → Int32} {L m : Nat} {σ τ X M : Sig} {G : Gd} {w : Rw} (h : St T L σ τ m X M G w) (hX : TX T L σ) (hM : TM T L τ) (lo hi lo' hi' : Int32) (hl : gd X → lo = lo' ∧ hi = hi') : ∃ v v' X' M', f9_nextNumber lo hi X = some (v, X') ∧ f12_number lo' hi' M = some (v', M') ∧ St T L σ τ m X' M' G w ∧ (gd X' → v = v' ∧ (lo.toInt ≤ v.toInt ∧ v.toInt ≤ hi.toInt) ∧ gd X) := by
  rcases h with ⟨p, f, hm, hp, hf, rfl, rfl⟩ | ⟨p, a, e, k, f, x, o, hp, hx, rfl, rfl⟩
  · obtain ⟨rfl, rfl⟩ := hl ((gd_x _ _ _ _ _ _ _).mpr rfl)
    have hE := tE_le T hp
    unfold f9_nextNumber f9_nextNumber_b14
    simp only [nm_eq, xg_0, XB_32, ↓reduceIte]
    rw [x_next hX G hp]
    simp only [bnd_eq]
    rw [x_num hX G hE, m_f12_number hM w hE lo hi f _ hf]
    by_cases c : tK T L (tE T L p) = 1
    · rw [if_pos c, if_pos c]
      by_cases c2 : lo.toInt ≤ (tV T L (tE T L p)).toInt ∧ (tV T L (tE T L p)).toInt ≤ hi.toInt
      · rw [if_pos c2, if_pos c2]
        simp only [bns_eq]
        exact ⟨_, _, _, _, rfl, rfl, Or.inl ⟨tE T L p, _, Nat.le_trans hm (tE_ge T L p), hE, tF_ok f, rfl, rfl⟩, fun _ => ⟨rfl, c2, (gd_x _ _ _ _ _ _ _).mpr rfl⟩⟩
      · rw [if_neg c2, if_neg c2]
        simp only [bns_eq, ex0, eo0]
        exact ⟨_, _, _, _, rfl, rfl, Or.inr ⟨tE T L p, _, _, _, _, 2, _, hE, by decide, rfl, rfl⟩, fun q => absurd ((gd_x _ _ _ _ _ _ _).mp q) (by decide)⟩
    · rw [if_neg c, if_neg c]
      simp only [bns_eq, ex0, eo0]
      exact ⟨_, _, _, _, rfl, rfl, Or.inr ⟨tE T L p, _, _, _, _, 1, _, hE, by decide, rfl, rfl⟩, fun q => absurd ((gd_x _ _ _ _ _ _ _).mp q) (by decide)⟩
  · unfold f9_nextNumber f9_nextNumber_b14
    simp only [nm_eq, xg_0, XB_32]
    rw [if_neg hx, x_num hX G hp, m_f12_number_x _ _ _ _ _ _ _ _ _ hx]
    simp only [exn _ hx, eon _ _ hx]
    have hb : St T L σ τ m (xg (XP T L σ p x o) 10 G) (mr (MB τ a e k f x o) w) G w := Or.inr ⟨p, a, e, k, f, x, o, hp, hx, rfl, rfl⟩
    repeat' split
    all_goals exact ⟨_, _, _, _, rfl, rfl, hb, fun q => absurd ((gd_x _ _ _ _ _ _ _).mp q) hx⟩
theorem x_semi (T : Nat → Int32) (L : Nat) (σ : Sig) (G : Gd) (p : Nat) (x o : Int32) : f9_isAtSemicolon (xg (XP T L σ p x o) 10 G) = if tK T L p = 2 then some (if x = 0 then 1 else 0, xg (XP T L σ p x o) 10 G) else some (0, xg (XP T L σ p (ex x 1) (eo x o (Int32.ofNat (tA T L p)))) 10 G) := by
  unfold f9_isAtSemicolon f9_isAtSemicolon_b16
  simp only [nm_eq, xg_0, XB_42, XB_32, kd2, x_fail, bnd_eq]
  by_cases c : tK T L p = 2
  · rw [if_pos c, if_pos c]
    split <;> rfl
  · rw [if_neg c, if_neg c]
    have : ¬ ex x 1 = 0 := by unfold ex; split <;> first | decide | assumption
    rw [if_neg this]
theorem m_ends (τ : Sig) (w : Rw) (a e k f x o q : Int32) : f12_ends q (mr (MB τ a e k f x o) w) = if k = 1 then (if q = 0 then some (0, mr (MB τ a e k f (ex x 4) (eo x o a)) w) else some (if x = 0 then 1 else 0, mr (MB τ a e k f x o) w)) else some (0, mr (MB τ a e k f (ex x 1) (eo x o a)) w) := by
  have n4 : ∀ c : Int32, ¬ c = 0 → ¬ ex x c = 0 := by intro c hc; unfold ex; split <;> assumption
  have n5 : ex (ex x 1) 4 = ex x 1 := exn _ (n4 1 (by decide))
  have n6 : eo (ex x 1) (eo x o a) a = eo x o a := eon _ _ (n4 1 (by decide))
  unfold f12_ends f12_ends_b13 f12_ends_b22
  simp only [nm_eq, th_mr, MB_13, m_fail, bnd_eq, m_good, if_neg (n4 4 (by decide)), if_neg (n4 1 (by decide)), gz_0, n5, n6]
  by_cases c : k = 1
  · rw [if_pos c, if_pos c]
    by_cases c2 : q = 0
    · rw [if_pos c2, if_pos c2]
    · rw [if_neg c2, if_neg c2]
      by_cases c3 : x = 0
      · rw [if_pos c3, gz_1]
      · rw [if_neg c3, gz_0]
  · rw [if_neg c, if_neg c]
    split <;> rfl
/-- a command's end -/
theorem St.ends {T : Nat → Int32} {L m : Nat} {σ τ X M : Sig} {G : Gd} {w : Rw} (h : St T L σ τ m X M G w) (hX : TX T L σ) (hM : TM T L τ) : (∃ X', f9_isComplete X = some (0, X') ∧ ∀ q : Int32, ∃ M', f12_ends q M = some (0, M') ∧ SB1 T L σ τ X' M' G w) ∨ (gd X ∧ ∃ p f, m ≤ p ∧ p < tE T L p ∧ p ≤ L ∧ tK T L p = 2 ∧ f9_isComplete X = some (1, xg (XP T L σ p 0 (-1)) 10 G) ∧ M = mr (MP T L τ p f 0 (-1)) w ∧ f12_ends 1 M = some (1, mr (MP T L τ p f 0 (-1)) w) ∧ f12_ends 0 M = some (0, mr (MP T L τ p f 4 (Int32.ofNat (tA T L p))) w)) := by
  rcases h with ⟨p, f, hm, hp, hf, rfl, rfl⟩ | ⟨p, a, e, k, f, x, o, hp, hx, rfl, rfl⟩
  · have hE := tE_le T hp
    unfold f9_isComplete f9_isComplete_b14
    simp only [nm_eq, xg_0, XB_32, ↓reduceIte]
    rw [x_next hX G hp]
    simp only [bnd_eq, x_semi, m_ends, km1, ↓reduceIte, ex0, eo0, e10]
    by_cases c : tK T L (tE T L p) = 2
    · right
      refine ⟨(gd_x _ _ _ _ _ _ _).mpr rfl, tE T L p, f, Nat.le_trans hm (tE_ge T L p), ?_, hE, c, ?_, rfl, ?_, ?_⟩
      · have h1 := (tKa_semi T L _ c).2
        have h2 := tA_ge T L (tE T L p)
        show tE T L p < tEa T L (tA T L (tE T L p))
        rw [h1]; omega
      · rw [if_pos c]; rfl
      · rw [if_pos c]
      · rw [if_pos c]
    · left
      refine ⟨xg (XP T L σ (tE T L p) 1 (Int32.ofNat (tA T L (tE T L p)))) 10 G, ?_, fun q => ⟨mr (MP T L τ (tE T L p) f 1 (Int32.ofNat (tA T L (tE T L p)))) w, ?_, ⟨tE T L p, _, _, _, _, 1, _, hE, by decide, rfl, rfl⟩⟩⟩
      · rw [if_neg c]; rfl
      · rw [if_neg c]
  · left
    unfold f9_isComplete f9_isComplete_b14
    simp only [nm_eq, xg_0, XB_32, m_ends]
    rw [if_neg hx, x_semi, if_neg hx, exn _ hx, eon _ _ hx, exn _ hx, eon _ _ hx]
    refine ⟨xg (XP T L σ p x o) 10 G, by split <;> rfl, fun q => ⟨mr (MB τ a e k f x o) w, ?_, ⟨p, _, _, _, _, x, o, hp, hx, rfl, rfl⟩⟩⟩
    repeat' split
    all_goals rfl
