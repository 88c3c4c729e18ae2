/-! THE MATHEMATICS, 2: the leaves of both, over a garden's block and a row -/
theorem m_ix {p j : Int32} {N : Int} {a c : Int32} (hp : 0 ≤ p.toInt ∧ p.toInt < N) (hN : N ≤ 50) (ha : 0 ≤ a.toInt ∧ a.toInt < 1000) (hc : 0 ≤ c.toInt ∧ c.toInt < 20) (hj : 0 ≤ j.toInt ∧ j.toInt < 20) : (a + p * c + j).toInt = a.toInt + p.toInt * c.toInt + j.toInt := by
  have hb : 0 ≤ p.toInt * c.toInt := Int.mul_nonneg hp.1 hc.1
  have hb2 : p.toInt * c.toInt ≤ 50 * 20 := Int.mul_le_mul (by omega) (by omega) hc.1 (by omega)
  have e1 : (p * c).toInt = p.toInt * c.toInt := ti_mul (by omega)
  have e2 : (a + p * c).toInt = a.toInt + p.toInt * c.toInt := by rw [ti_add (by omega), e1]
  rw [ti_add (by omega), e2]
theorem m_of {τ : Sig} {w : Rw} {p j : Int32} (hp : 0 ≤ p.toInt ∧ p.toInt < 30) (hj : 0 ≤ j.toInt ∧ j.toInt < 12) : f12_of p j (mr τ w) = some (w (76 + 12 * p.toInt.toNat + j.toInt.toNat)) := by
  have e := m_ix (a := 76) (c := 12) hp (by decide) (by decide) (by decide) (j := j) (by omega)
  have e76 : (76 : Int32).toInt = 76 := rfl
  have e12 : (12 : Int32).toInt = 12 := rfl
  rw [e76, e12] at e
  unfold f12_of
  simp only [nm_ap, mr_at]
  rw [ald_in (by omega), e, show (76 + p.toInt * 12 + j.toInt).toNat = 76 + 12 * p.toInt.toNat + j.toInt.toNat by omega]
theorem m_put {τ : Sig} {w : Rw} {p j v : Int32} (hp : 0 ≤ p.toInt ∧ p.toInt < 30) (hj : 0 ≤ j.toInt ∧ j.toInt < 12) : f12_put p j v (mr τ w) = some (mr τ (upd w (76 + 12 * p.toInt.toNat + j.toInt.toNat) v)) := by
  have e := m_ix (a := 76) (c := 12) hp (by decide) (by decide) (by decide) (j := j) (by omega)
  have e76 : (76 : Int32).toInt = 76 := rfl
  have e12 : (12 : Int32).toInt = 12 := rfl
  rw [e76, e12] at e
  unfold f12_put
  simp only [nm_ap]
  rw [ast_in (by omega), e, show (76 + p.toInt * 12 + j.toInt).toNat = 76 + 12 * p.toInt.toNat + j.toInt.toNat by omega, up_mr]
theorem m_bed {τ : Sig} {w : Rw} {p j : Int32} (hp : 0 ≤ p.toInt ∧ p.toInt < 8) (hj : 0 ≤ j.toInt ∧ j.toInt < 7) : f12_bed p j (mr τ w) = some (w (20 + 7 * p.toInt.toNat + j.toInt.toNat)) := by
  have e := m_ix (a := 20) (c := 7) hp (by decide) (by decide) (by decide) (j := j) (by omega)
  have e76 : (20 : Int32).toInt = 20 := rfl
  have e12 : (7 : Int32).toInt = 7 := rfl
  rw [e76, e12] at e
  unfold f12_bed
  simp only [nm_ap, mr_at]
  rw [ald_in (by omega), e, show (20 + p.toInt * 7 + j.toInt).toNat = 20 + 7 * p.toInt.toNat + j.toInt.toNat by omega]
theorem m_putBed {τ : Sig} {w : Rw} {p j v : Int32} (hp : 0 ≤ p.toInt ∧ p.toInt < 8) (hj : 0 ≤ j.toInt ∧ j.toInt < 7) : f12_putBed p j v (mr τ w) = some (mr τ (upd w (20 + 7 * p.toInt.toNat + j.toInt.toNat) v)) := by
  have e := m_ix (a := 20) (c := 7) hp (by decide) (by decide) (by decide) (j := j) (by omega)
  have e76 : (20 : Int32).toInt = 20 := rfl
  have e12 : (7 : Int32).toInt = 7 := rfl
  rw [e76, e12] at e
  unfold f12_putBed
  simp only [nm_ap]
  rw [ast_in (by omega), e, show (20 + p.toInt * 7 + j.toInt).toNat = 20 + 7 * p.toInt.toNat + j.toInt.toNat by omega, up_mr]
theorem al_0 {β : Type} (s : Nat → Int32) (f : Int32 → Option β) : ald s 536 0 f = f (s 0) := ald_in (s := s) (n := 536) (i := 0) (by decide)
theorem as_0 {β : Type} (σ : Sig) (g c : Nat) (v : Int32) (f : Sig → Option β) : ast σ g c 536 0 v f = f (up σ g c 0 v) := ast_in (n := 536) (i := 0) (by decide)
theorem al_1 {β : Type} (s : Nat → Int32) (f : Int32 → Option β) : ald s 536 1 f = f (s 1) := ald_in (s := s) (n := 536) (i := 1) (by decide)
theorem as_1 {β : Type} (σ : Sig) (g c : Nat) (v : Int32) (f : Sig → Option β) : ast σ g c 536 1 v f = f (up σ g c 1 v) := ast_in (n := 536) (i := 1) (by decide)
theorem al_2 {β : Type} (s : Nat → Int32) (f : Int32 → Option β) : ald s 536 2 f = f (s 2) := ald_in (s := s) (n := 536) (i := 2) (by decide)
theorem as_2 {β : Type} (σ : Sig) (g c : Nat) (v : Int32) (f : Sig → Option β) : ast σ g c 536 2 v f = f (up σ g c 2 v) := ast_in (n := 536) (i := 2) (by decide)
theorem al_3 {β : Type} (s : Nat → Int32) (f : Int32 → Option β) : ald s 536 3 f = f (s 3) := ald_in (s := s) (n := 536) (i := 3) (by decide)
theorem as_3 {β : Type} (σ : Sig) (g c : Nat) (v : Int32) (f : Sig → Option β) : ast σ g c 536 3 v f = f (up σ g c 3 v) := ast_in (n := 536) (i := 3) (by decide)
theorem al_4 {β : Type} (s : Nat → Int32) (f : Int32 → Option β) : ald s 536 4 f = f (s 4) := ald_in (s := s) (n := 536) (i := 4) (by decide)
theorem as_4 {β : Type} (σ : Sig) (g c : Nat) (v : Int32) (f : Sig → Option β) : ast σ g c 536 4 v f = f (up σ g c 4 v) := ast_in (n := 536) (i := 4) (by decide)
theorem al_5 {β : Type} (s : Nat → Int32) (f : Int32 → Option β) : ald s 536 5 f = f (s 5) := ald_in (s := s) (n := 536) (i := 5) (by decide)
theorem as_5 {β : Type} (σ : Sig) (g c : Nat) (v : Int32) (f : Sig → Option β) : ast σ g c 536 5 v f = f (up σ g c 5 v) := ast_in (n := 536) (i := 5) (by decide)
theorem al_6 {β : Type} (s : Nat → Int32) (f : Int32 → Option β) : ald s 536 6 f = f (s 6) := ald_in (s := s) (n := 536) (i := 6) (by decide)
theorem as_6 {β : Type} (σ : Sig) (g c : Nat) (v : Int32) (f : Sig → Option β) : ast σ g c 536 6 v f = f (up σ g c 6 v) := ast_in (n := 536) (i := 6) (by decide)
theorem al_7 {β : Type} (s : Nat → Int32) (f : Int32 → Option β) : ald s 536 7 f = f (s 7) := ald_in (s := s) (n := 536) (i := 7) (by decide)
theorem as_7 {β : Type} (σ : Sig) (g c : Nat) (v : Int32) (f : Sig → Option β) : ast σ g c 536 7 v f = f (up σ g c 7 v) := ast_in (n := 536) (i := 7) (by decide)
theorem al_8 {β : Type} (s : Nat → Int32) (f : Int32 → Option β) : ald s 536 8 f = f (s 8) := ald_in (s := s) (n := 536) (i := 8) (by decide)
theorem as_8 {β : Type} (σ : Sig) (g c : Nat) (v : Int32) (f : Sig → Option β) : ast σ g c 536 8 v f = f (up σ g c 8 v) := ast_in (n := 536) (i := 8) (by decide)
theorem al_9 {β : Type} (s : Nat → Int32) (f : Int32 → Option β) : ald s 536 9 f = f (s 9) := ald_in (s := s) (n := 536) (i := 9) (by decide)
theorem as_9 {β : Type} (σ : Sig) (g c : Nat) (v : Int32) (f : Sig → Option β) : ast σ g c 536 9 v f = f (up σ g c 9 v) := ast_in (n := 536) (i := 9) (by decide)
theorem al_10 {β : Type} (s : Nat → Int32) (f : Int32 → Option β) : ald s 536 10 f = f (s 10) := ald_in (s := s) (n := 536) (i := 10) (by decide)
theorem as_10 {β : Type} (σ : Sig) (g c : Nat) (v : Int32) (f : Sig → Option β) : ast σ g c 536 10 v f = f (up σ g c 10 v) := ast_in (n := 536) (i := 10) (by decide)
theorem al_11 {β : Type} (s : Nat → Int32) (f : Int32 → Option β) : ald s 536 11 f = f (s 11) := ald_in (s := s) (n := 536) (i := 11) (by decide)
theorem as_11 {β : Type} (σ : Sig) (g c : Nat) (v : Int32) (f : Sig → Option β) : ast σ g c 536 11 v f = f (up σ g c 11 v) := ast_in (n := 536) (i := 11) (by decide)
theorem al_12 {β : Type} (s : Nat → Int32) (f : Int32 → Option β) : ald s 536 12 f = f (s 12) := ald_in (s := s) (n := 536) (i := 12) (by decide)
theorem as_12 {β : Type} (σ : Sig) (g c : Nat) (v : Int32) (f : Sig → Option β) : ast σ g c 536 12 v f = f (up σ g c 12 v) := ast_in (n := 536) (i := 12) (by decide)
theorem al_13 {β : Type} (s : Nat → Int32) (f : Int32 → Option β) : ald s 536 13 f = f (s 13) := ald_in (s := s) (n := 536) (i := 13) (by decide)
theorem as_13 {β : Type} (σ : Sig) (g c : Nat) (v : Int32) (f : Sig → Option β) : ast σ g c 536 13 v f = f (up σ g c 13 v) := ast_in (n := 536) (i := 13) (by decide)
theorem al_14 {β : Type} (s : Nat → Int32) (f : Int32 → Option β) : ald s 536 14 f = f (s 14) := ald_in (s := s) (n := 536) (i := 14) (by decide)
theorem as_14 {β : Type} (σ : Sig) (g c : Nat) (v : Int32) (f : Sig → Option β) : ast σ g c 536 14 v f = f (up σ g c 14 v) := ast_in (n := 536) (i := 14) (by decide)
theorem mo_0 {τ : Sig} {w : Rw} {p : Int32} (hp : 0 ≤ p.toInt ∧ p.toInt < 30) : f12_of p 0 (mr τ w) = some (w (76 + 12 * p.toInt.toNat + 0)) := m_of hp (by decide)
theorem mp_0 {τ : Sig} {w : Rw} {p v : Int32} (hp : 0 ≤ p.toInt ∧ p.toInt < 30) : f12_put p 0 v (mr τ w) = some (mr τ (upd w (76 + 12 * p.toInt.toNat + 0) v)) := m_put hp (by decide)
theorem mo_1 {τ : Sig} {w : Rw} {p : Int32} (hp : 0 ≤ p.toInt ∧ p.toInt < 30) : f12_of p 1 (mr τ w) = some (w (76 + 12 * p.toInt.toNat + 1)) := m_of hp (by decide)
theorem mp_1 {τ : Sig} {w : Rw} {p v : Int32} (hp : 0 ≤ p.toInt ∧ p.toInt < 30) : f12_put p 1 v (mr τ w) = some (mr τ (upd w (76 + 12 * p.toInt.toNat + 1) v)) := m_put hp (by decide)
theorem mo_2 {τ : Sig} {w : Rw} {p : Int32} (hp : 0 ≤ p.toInt ∧ p.toInt < 30) : f12_of p 2 (mr τ w) = some (w (76 + 12 * p.toInt.toNat + 2)) := m_of hp (by decide)
theorem mp_2 {τ : Sig} {w : Rw} {p v : Int32} (hp : 0 ≤ p.toInt ∧ p.toInt < 30) : f12_put p 2 v (mr τ w) = some (mr τ (upd w (76 + 12 * p.toInt.toNat + 2) v)) := m_put hp (by decide)
theorem mo_3 {τ : Sig} {w : Rw} {p : Int32} (hp : 0 ≤ p.toInt ∧ p.toInt < 30) : f12_of p 3 (mr τ w) = some (w (76 + 12 * p.toInt.toNat + 3)) := m_of hp (by decide)
theorem mp_3 {τ : Sig} {w : Rw} {p v : Int32} (hp : 0 ≤ p.toInt ∧ p.toInt < 30) : f12_put p 3 v (mr τ w) = some (mr τ (upd w (76 + 12 * p.toInt.toNat + 3) v)) := m_put hp (by decide)
theorem mo_4 {τ : Sig} {w : Rw} {p : Int32} (hp : 0 ≤ p.toInt ∧ p.toInt < 30) : f12_of p 4 (mr τ w) = some (w (76 + 12 * p.toInt.toNat + 4)) := m_of hp (by decide)
theorem mp_4 {τ : Sig} {w : Rw} {p v : Int32} (hp : 0 ≤ p.toInt ∧ p.toInt < 30) : f12_put p 4 v (mr τ w) = some (mr τ (upd w (76 + 12 * p.toInt.toNat + 4) v)) := m_put hp (by decide)
theorem mo_5 {τ : Sig} {w : Rw} {p : Int32} (hp : 0 ≤ p.toInt ∧ p.toInt < 30) : f12_of p 5 (mr τ w) = some (w (76 + 12 * p.toInt.toNat + 5)) := m_of hp (by decide)
theorem mp_5 {τ : Sig} {w : Rw} {p v : Int32} (hp : 0 ≤ p.toInt ∧ p.toInt < 30) : f12_put p 5 v (mr τ w) = some (mr τ (upd w (76 + 12 * p.toInt.toNat + 5) v)) := m_put hp (by decide)
theorem mo_6 {τ : Sig} {w : Rw} {p : Int32} (hp : 0 ≤ p.toInt ∧ p.toInt < 30) : f12_of p 6 (mr τ w) = some (w (76 + 12 * p.toInt.toNat + 6)) := m_of hp (by decide)
theorem mp_6 {τ : Sig} {w : Rw} {p v : Int32} (hp : 0 ≤ p.toInt ∧ p.toInt < 30) : f12_put p 6 v (mr τ w) = some (mr τ (upd w (76 + 12 * p.toInt.toNat + 6) v)) := m_put hp (by decide)
theorem mo_7 {τ : Sig} {w : Rw} {p : Int32} (hp : 0 ≤ p.toInt ∧ p.toInt < 30) : f12_of p 7 (mr τ w) = some (w (76 + 12 * p.toInt.toNat + 7)) := m_of hp (by decide)
theorem mp_7 {τ : Sig} {w : Rw} {p v : Int32} (hp : 0 ≤ p.toInt ∧ p.toInt < 30) : f12_put p 7 v (mr τ w) = some (mr τ (upd w (76 + 12 * p.toInt.toNat + 7) v)) := m_put hp (by decide)
theorem mo_8 {τ : Sig} {w : Rw} {p : Int32} (hp : 0 ≤ p.toInt ∧ p.toInt < 30) : f12_of p 8 (mr τ w) = some (w (76 + 12 * p.toInt.toNat + 8)) := m_of hp (by decide)
theorem mp_8 {τ : Sig} {w : Rw} {p v : Int32} (hp : 0 ≤ p.toInt ∧ p.toInt < 30) : f12_put p 8 v (mr τ w) = some (mr τ (upd w (76 + 12 * p.toInt.toNat + 8) v)) := m_put hp (by decide)
theorem mo_9 {τ : Sig} {w : Rw} {p : Int32} (hp : 0 ≤ p.toInt ∧ p.toInt < 30) : f12_of p 9 (mr τ w) = some (w (76 + 12 * p.toInt.toNat + 9)) := m_of hp (by decide)
theorem mp_9 {τ : Sig} {w : Rw} {p v : Int32} (hp : 0 ≤ p.toInt ∧ p.toInt < 30) : f12_put p 9 v (mr τ w) = some (mr τ (upd w (76 + 12 * p.toInt.toNat + 9) v)) := m_put hp (by decide)
theorem mo_10 {τ : Sig} {w : Rw} {p : Int32} (hp : 0 ≤ p.toInt ∧ p.toInt < 30) : f12_of p 10 (mr τ w) = some (w (76 + 12 * p.toInt.toNat + 10)) := m_of hp (by decide)
theorem mp_10 {τ : Sig} {w : Rw} {p v : Int32} (hp : 0 ≤ p.toInt ∧ p.toInt < 30) : f12_put p 10 v (mr τ w) = some (mr τ (upd w (76 + 12 * p.toInt.toNat + 10) v)) := m_put hp (by decide)
theorem mo_11 {τ : Sig} {w : Rw} {p : Int32} (hp : 0 ≤ p.toInt ∧ p.toInt < 30) : f12_of p 11 (mr τ w) = some (w (76 + 12 * p.toInt.toNat + 11)) := m_of hp (by decide)
theorem mp_11 {τ : Sig} {w : Rw} {p v : Int32} (hp : 0 ≤ p.toInt ∧ p.toInt < 30) : f12_put p 11 v (mr τ w) = some (mr τ (upd w (76 + 12 * p.toInt.toNat + 11) v)) := m_put hp (by decide)
theorem mb_0 {τ : Sig} {w : Rw} {p : Int32} (hp : 0 ≤ p.toInt ∧ p.toInt < 8) : f12_bed p 0 (mr τ w) = some (w (20 + 7 * p.toInt.toNat + 0)) := m_bed hp (by decide)
theorem mq_0 {τ : Sig} {w : Rw} {p v : Int32} (hp : 0 ≤ p.toInt ∧ p.toInt < 8) : f12_putBed p 0 v (mr τ w) = some (mr τ (upd w (20 + 7 * p.toInt.toNat + 0) v)) := m_putBed hp (by decide)
theorem mb_1 {τ : Sig} {w : Rw} {p : Int32} (hp : 0 ≤ p.toInt ∧ p.toInt < 8) : f12_bed p 1 (mr τ w) = some (w (20 + 7 * p.toInt.toNat + 1)) := m_bed hp (by decide)
theorem mq_1 {τ : Sig} {w : Rw} {p v : Int32} (hp : 0 ≤ p.toInt ∧ p.toInt < 8) : f12_putBed p 1 v (mr τ w) = some (mr τ (upd w (20 + 7 * p.toInt.toNat + 1) v)) := m_putBed hp (by decide)
theorem mb_2 {τ : Sig} {w : Rw} {p : Int32} (hp : 0 ≤ p.toInt ∧ p.toInt < 8) : f12_bed p 2 (mr τ w) = some (w (20 + 7 * p.toInt.toNat + 2)) := m_bed hp (by decide)
theorem mq_2 {τ : Sig} {w : Rw} {p v : Int32} (hp : 0 ≤ p.toInt ∧ p.toInt < 8) : f12_putBed p 2 v (mr τ w) = some (mr τ (upd w (20 + 7 * p.toInt.toNat + 2) v)) := m_putBed hp (by decide)
theorem mb_3 {τ : Sig} {w : Rw} {p : Int32} (hp : 0 ≤ p.toInt ∧ p.toInt < 8) : f12_bed p 3 (mr τ w) = some (w (20 + 7 * p.toInt.toNat + 3)) := m_bed hp (by decide)
theorem mq_3 {τ : Sig} {w : Rw} {p v : Int32} (hp : 0 ≤ p.toInt ∧ p.toInt < 8) : f12_putBed p 3 v (mr τ w) = some (mr τ (upd w (20 + 7 * p.toInt.toNat + 3) v)) := m_putBed hp (by decide)
theorem mb_4 {τ : Sig} {w : Rw} {p : Int32} (hp : 0 ≤ p.toInt ∧ p.toInt < 8) : f12_bed p 4 (mr τ w) = some (w (20 + 7 * p.toInt.toNat + 4)) := m_bed hp (by decide)
theorem mq_4 {τ : Sig} {w : Rw} {p v : Int32} (hp : 0 ≤ p.toInt ∧ p.toInt < 8) : f12_putBed p 4 v (mr τ w) = some (mr τ (upd w (20 + 7 * p.toInt.toNat + 4) v)) := m_putBed hp (by decide)
theorem mb_5 {τ : Sig} {w : Rw} {p : Int32} (hp : 0 ≤ p.toInt ∧ p.toInt < 8) : f12_bed p 5 (mr τ w) = some (w (20 + 7 * p.toInt.toNat + 5)) := m_bed hp (by decide)
theorem mq_5 {τ : Sig} {w : Rw} {p v : Int32} (hp : 0 ≤ p.toInt ∧ p.toInt < 8) : f12_putBed p 5 v (mr τ w) = some (mr τ (upd w (20 + 7 * p.toInt.toNat + 5) v)) := m_putBed hp (by decide)
theorem mb_6 {τ : Sig} {w : Rw} {p : Int32} (hp : 0 ≤ p.toInt ∧ p.toInt < 8) : f12_bed p 6 (mr τ w) = some (w (20 + 7 * p.toInt.toNat + 6)) := m_bed hp (by decide)
theorem mq_6 {τ : Sig} {w : Rw} {p v : Int32} (hp : 0 ≤ p.toInt ∧ p.toInt < 8) : f12_putBed p 6 v (mr τ w) = some (mr τ (upd w (20 + 7 * p.toInt.toNat + 6) v)) := m_putBed hp (by decide)
theorem RG.s0 {G : Gd} {w : Rw} (h : RG G w) : w 0 = G 2 0 := h.1.1
theorem RG.s1 {G : Gd} {w : Rw} (h : RG G w) : w 1 = G 3 0 := h.1.2.1
theorem RG.s2 {G : Gd} {w : Rw} (h : RG G w) : w 2 = G 4 0 := h.1.2.2.1
theorem RG.s3 {G : Gd} {w : Rw} (h : RG G w) : w 3 = G 5 0 := h.1.2.2.2.1
theorem RG.s4 {G : Gd} {w : Rw} (h : RG G w) : w 4 = G 1 0 := h.1.2.2.2.2.1
theorem RG.s5 {G : Gd} {w : Rw} (h : RG G w) : w 5 = G 2 1 := h.1.2.2.2.2.2.1
theorem RG.s6 {G : Gd} {w : Rw} (h : RG G w) : w 6 = G 0 6 := h.1.2.2.2.2.2.2.1
theorem RG.s7 {G : Gd} {w : Rw} (h : RG G w) : w 7 = G 1 1 := h.1.2.2.2.2.2.2.2.1
theorem RG.s8 {G : Gd} {w : Rw} (h : RG G w) : w 8 = G 1 2 := h.1.2.2.2.2.2.2.2.2.1
theorem RG.s9 {G : Gd} {w : Rw} (h : RG G w) : w 9 = G 6 0 - G 6 1 := h.1.2.2.2.2.2.2.2.2.2.1
theorem RG.s10 {G : Gd} {w : Rw} (h : RG G w) : w 10 = G 6 1 := h.1.2.2.2.2.2.2.2.2.2.2.1
theorem RG.s11 {G : Gd} {w : Rw} (h : RG G w) : w 11 = G 6 3 := h.1.2.2.2.2.2.2.2.2.2.2.2.1
theorem RG.s12 {G : Gd} {w : Rw} (h : RG G w) : w 12 = G 6 4 := h.1.2.2.2.2.2.2.2.2.2.2.2.2.1
theorem RG.s13 {G : Gd} {w : Rw} (h : RG G w) : w 13 = G 6 5 := h.1.2.2.2.2.2.2.2.2.2.2.2.2.2.1
theorem RG.s14 {G : Gd} {w : Rw} (h : RG G w) : w 14 = G 6 2 := h.1.2.2.2.2.2.2.2.2.2.2.2.2.2.2
theorem RG.i {G : Gd} {w : Rw} (h : RG G w) {i : Nat} (hi : (i : Int) < (G 2 0).toInt) : w (15 + i) = G 7 i := h.2.1 i hi
theorem RG.b0 {G : Gd} {w : Rw} (h : RG G w) {b : Nat} (hb : (b : Int) < (G 3 0).toInt) : w (20 + 7 * b + 0) = G 8 b := (h.2.2.1 b hb).1
theorem RG.b1 {G : Gd} {w : Rw} (h : RG G w) {b : Nat} (hb : (b : Int) < (G 3 0).toInt) : w (20 + 7 * b + 1) = G 9 b := (h.2.2.1 b hb).2.1
theorem RG.b2 {G : Gd} {w : Rw} (h : RG G w) {b : Nat} (hb : (b : Int) < (G 3 0).toInt) : w (20 + 7 * b + 2) = G 10 b := (h.2.2.1 b hb).2.2.1
theorem RG.b3 {G : Gd} {w : Rw} (h : RG G w) {b : Nat} (hb : (b : Int) < (G 3 0).toInt) : w (20 + 7 * b + 3) = G 11 b := (h.2.2.1 b hb).2.2.2.1
theorem RG.b4 {G : Gd} {w : Rw} (h : RG G w) {b : Nat} (hb : (b : Int) < (G 3 0).toInt) : w (20 + 7 * b + 4) = G 12 b := (h.2.2.1 b hb).2.2.2.2.1
theorem RG.b5 {G : Gd} {w : Rw} (h : RG G w) {b : Nat} (hb : (b : Int) < (G 3 0).toInt) : w (20 + 7 * b + 5) = G 14 b := (h.2.2.1 b hb).2.2.2.2.2.1
theorem RG.b6 {G : Gd} {w : Rw} (h : RG G w) {b : Nat} (hb : (b : Int) < (G 3 0).toInt) : w (20 + 7 * b + 6) = G 13 b := (h.2.2.1 b hb).2.2.2.2.2.2
theorem RG.p0 {G : Gd} {w : Rw} (h : RG G w) {p : Nat} (hp : (p : Int) < (G 4 0).toInt) : w (76 + 12 * p + 0) = G 15 p := (h.2.2.2.1 p hp).1
theorem RG.p1 {G : Gd} {w : Rw} (h : RG G w) {p : Nat} (hp : (p : Int) < (G 4 0).toInt) : w (76 + 12 * p + 1) = G 16 p := (h.2.2.2.1 p hp).2.1
theorem RG.p2 {G : Gd} {w : Rw} (h : RG G w) {p : Nat} (hp : (p : Int) < (G 4 0).toInt) : w (76 + 12 * p + 2) = G 17 p := (h.2.2.2.1 p hp).2.2.1
theorem RG.p3 {G : Gd} {w : Rw} (h : RG G w) {p : Nat} (hp : (p : Int) < (G 4 0).toInt) : w (76 + 12 * p + 3) = G 18 p := (h.2.2.2.1 p hp).2.2.2.1
theorem RG.p4 {G : Gd} {w : Rw} (h : RG G w) {p : Nat} (hp : (p : Int) < (G 4 0).toInt) : w (76 + 12 * p + 4) = G 19 p := (h.2.2.2.1 p hp).2.2.2.2.1
theorem RG.p5 {G : Gd} {w : Rw} (h : RG G w) {p : Nat} (hp : (p : Int) < (G 4 0).toInt) : w (76 + 12 * p + 5) = G 20 p := (h.2.2.2.1 p hp).2.2.2.2.2.1
theorem RG.p6 {G : Gd} {w : Rw} (h : RG G w) {p : Nat} (hp : (p : Int) < (G 4 0).toInt) : w (76 + 12 * p + 6) = G 21 p := (h.2.2.2.1 p hp).2.2.2.2.2.2.1
theorem RG.p7 {G : Gd} {w : Rw} (h : RG G w) {p : Nat} (hp : (p : Int) < (G 4 0).toInt) : w (76 + 12 * p + 7) = G 22 p := (h.2.2.2.1 p hp).2.2.2.2.2.2.2.1
theorem RG.p8 {G : Gd} {w : Rw} (h : RG G w) {p : Nat} (hp : (p : Int) < (G 4 0).toInt) : w (76 + 12 * p + 8) = G 23 p := (h.2.2.2.1 p hp).2.2.2.2.2.2.2.2.1
theorem RG.p9 {G : Gd} {w : Rw} (h : RG G w) {p : Nat} (hp : (p : Int) < (G 4 0).toInt) : w (76 + 12 * p + 9) = G 24 p := (h.2.2.2.1 p hp).2.2.2.2.2.2.2.2.2.1
theorem RG.p10 {G : Gd} {w : Rw} (h : RG G w) {p : Nat} (hp : (p : Int) < (G 4 0).toInt) : w (76 + 12 * p + 10) = G 25 p := (h.2.2.2.1 p hp).2.2.2.2.2.2.2.2.2.2.1
theorem RG.p11 {G : Gd} {w : Rw} (h : RG G w) {p : Nat} (hp : (p : Int) < (G 4 0).toInt) : w (76 + 12 * p + 11) = G 26 p := (h.2.2.2.1 p hp).2.2.2.2.2.2.2.2.2.2.2
theorem RG.k0 {G : Gd} {w : Rw} (h : RG G w) {k : Nat} (hk : (k : Int) < (G 5 0).toInt) : w (436 + 2 * k + 0) = G 27 k := (h.2.2.2.2 k hk).1
theorem RG.k1 {G : Gd} {w : Rw} (h : RG G w) {k : Nat} (hk : (k : Int) < (G 5 0).toInt) : w (436 + 2 * k + 1) = G 28 k := (h.2.2.2.2 k hk).2
theorem m_kx {k : Int32} (hk : 0 ≤ k.toInt ∧ k.toInt < 50) : (436 + 2 * k).toInt.toNat = 436 + 2 * k.toInt.toNat + 0 ∧ (436 + 2 * k + 1).toInt.toNat = 436 + 2 * k.toInt.toNat + 1 ∧ 0 ≤ (436 + 2 * k).toInt ∧ (436 + 2 * k).toInt < 536 ∧ 0 ≤ (436 + 2 * k + 1).toInt ∧ (436 + 2 * k + 1).toInt < 536 := by
  have e2 : (2 : Int32).toInt = 2 := rfl
  have e4 : (436 : Int32).toInt = 436 := rfl
  have e1 : (1 : Int32).toInt = 1 := rfl
  have h1 : (2 * k).toInt = 2 * k.toInt := tv_mul e2 rfl (by omega)
  have h2 : (436 + 2 * k).toInt = 436 + 2 * k.toInt := by rw [ti_add (by omega), h1, e4]
  have h3 : (436 + 2 * k + 1).toInt = 437 + 2 * k.toInt := by rw [ti_add (by omega), h2, e1]; omega
  omega
theorem m_passOfCard {τ : Sig} {w : Rw} {k : Int32} (hk : 0 ≤ k.toInt ∧ k.toInt < 50) : f12_passOfCard k (mr τ w) = some (w (436 + 2 * k.toInt.toNat + 0)) := by
  obtain ⟨h1, h2, h3, h4, h5, h6⟩ := m_kx hk
  unfold f12_passOfCard
  simp only [nm_ap, mr_at]
  rw [ald_in ⟨h3, h4⟩, h1]
theorem m_blocked {τ : Sig} {w : Rw} {k : Int32} (hk : 0 ≤ k.toInt ∧ k.toInt < 50) : f12_blocked k (mr τ w) = some (if w (436 + 2 * k.toInt.toNat + 1) = 1 then 1 else 0) := by
  obtain ⟨h1, h2, h3, h4, h5, h6⟩ := m_kx hk
  unfold f12_blocked
  simp only [nm_ap, mr_at]
  rw [ald_in ⟨h5, h6⟩, h2]
  split <;> rfl
-- the clock
def Td (G : Gd) : Int32 := G 1 0 / 96
def Tk (G : Gd) : Int32 := G 1 0 - G 1 0 / 96 * 96
def Opn (G : Gd) (x : Int32) : Int32 := if 32 ≤ x.toInt ∧ x.toInt ≤ 67 ∧ ¬ ((G 1 1).toInt ≤ x.toInt ∧ x.toInt ≤ (G 1 2).toInt) then 1 else 0
theorem x_today (σ : Sig) (n : Nat) (G : Gd) : f3_today n (xg σ n G) = some (Td G) := by
  simp only [f3_today, nm_ap, bnd_ap, bns_ap, bnx_ap0, bnx_ap1, bnx_ap2, bnx_ap3, bnx_ap4, gz_0, gz_1, dvd_96, dvd_2, dvd_10000, rmd_96, rmd_8, xg_at, xg_0, mr_at, up_xg, up_mr, narz_0, narz_1, i10, i01, i11, i00, ↓reduceIte, e10, e01, e50, e51, e20, e60, e70, e30, e40, Classical.not_not, not_true_eq_false, not_false_eq_true]; rfl
theorem m_today {G : Gd} {w : Rw} (h : RG G w) (τ : Sig) : f12_today (mr τ w) = some (Td G) := by
  simp only [f12_today, nm_ap, bnd_ap, bns_ap, bnx_ap0, bnx_ap1, bnx_ap2, bnx_ap3, bnx_ap4, gz_0, gz_1, dvd_96, dvd_2, dvd_10000, rmd_96, rmd_8, xg_at, xg_0, mr_at, up_xg, up_mr, narz_0, narz_1, i10, i01, i11, i00, ↓reduceIte, e10, e01, e50, e51, e20, e60, e70, e30, e40, Classical.not_not, not_true_eq_false, not_false_eq_true, al_0, al_1, al_2, al_3, al_4, al_5, al_6, al_7, al_8, al_9, al_10, al_11, al_12, al_13, al_14, h.s4]; rfl
theorem x_tick (σ : Sig) (n : Nat) (G : Gd) : f3_tickOfDay n (xg σ n G) = some (Tk G) := by
  simp only [f3_tickOfDay, nm_ap, bnd_ap, bns_ap, bnx_ap0, bnx_ap1, bnx_ap2, bnx_ap3, bnx_ap4, gz_0, gz_1, dvd_96, dvd_2, dvd_10000, rmd_96, rmd_8, xg_at, xg_0, mr_at, up_xg, up_mr, narz_0, narz_1, i10, i01, i11, i00, ↓reduceIte, e10, e01, e50, e51, e20, e60, e70, e30, e40, Classical.not_not, not_true_eq_false, not_false_eq_true]; rfl
theorem Td_in {G : Gd} (h : Iv G) : (Td G).toInt = (G 1 0).toInt / 96 ∧ 0 ≤ (Td G).toInt ∧ (Td G).toInt ≤ 99 := by
  have hi := h.1
  have e : (96 : Int32).toInt = 96 := rfl
  have : (Td G).toInt = (G 1 0).toInt / 96 := by exact tv_div rfl e (by omega)
  omega
theorem Tk_in {G : Gd} (h : Iv G) : (Tk G).toInt = (G 1 0).toInt % 96 := by
  have hi := h.1
  have e : (96 : Int32).toInt = 96 := rfl
  have h1 : (G 1 0 / 96).toInt = (G 1 0).toInt / 96 := tv_div rfl e (by omega)
  have h2 : (G 1 0 / 96 * 96).toInt = (G 1 0).toInt / 96 * 96 := tv_mul h1 e (by omega)
  unfold Tk
  rw [ti_sub (by omega), h2]
  omega
theorem x_isOpen (σ : Sig) (n : Nat) (G : Gd) (x : Int32) : f3_isOpenIn n x (xg σ n G) = some (Opn G x) := by
  unfold f3_isOpenIn f3_isOpenIn_b20 f3_isOpenIn_b21 Opn
  simp only [nm_ap, bnd_ap, bns_ap, bnx_ap0, bnx_ap1, bnx_ap2, bnx_ap3, bnx_ap4, gz_0, gz_1, dvd_96, dvd_2, dvd_10000, rmd_96, rmd_8, xg_at, xg_0, mr_at, up_xg, up_mr, narz_0, narz_1, i10, i01, i11, i00, ↓reduceIte, e10, e01, e50, e51, e20, e60, e70, e30, e40, Classical.not_not, not_true_eq_false, not_false_eq_true, Int32.lt_iff_toInt_lt, Int32.le_iff_toInt_le, ← Int32.toInt_inj, Int32.reduceToInt, Int.reduceEq, Int.reduceLT, Int.reduceLE, Int.reduceNeg, ↓reduceIte, not_true_eq_false, not_false_eq_true]
  repeat' split
  all_goals first | rfl | (exfalso; omega)
theorem m_openAt {G : Gd} {w : Rw} (h : RG G w) (τ : Sig) (x : Int32) : f12_openAt x (mr τ w) = some (Opn G x) := by
  unfold f12_openAt f12_openAt_b16 f12_openAt_b17 f12_openAt_b44 Opn
  simp only [nm_ap, bnd_ap, bns_ap, bnx_ap0, bnx_ap1, bnx_ap2, bnx_ap3, bnx_ap4, gz_0, gz_1, dvd_96, dvd_2, dvd_10000, rmd_96, rmd_8, xg_at, xg_0, mr_at, up_xg, up_mr, narz_0, narz_1, i10, i01, i11, i00, ↓reduceIte, e10, e01, e50, e51, e20, e60, e70, e30, e40, Classical.not_not, not_true_eq_false, not_false_eq_true, al_0, al_1, al_2, al_3, al_4, al_5, al_6, al_7, al_8, al_9, al_10, al_11, al_12, al_13, al_14, h.s7, h.s8, Int32.lt_iff_toInt_lt, Int32.le_iff_toInt_le, ← Int32.toInt_inj, Int32.reduceToInt, Int.reduceEq, Int.reduceLT, Int.reduceLE, Int.reduceNeg, ↓reduceIte, not_true_eq_false, not_false_eq_true]
  repeat' split
  all_goals first | rfl | (exfalso; omega)
theorem Opn_b (G : Gd) (x : Int32) : Opn G x = 0 ∨ Opn G x = 1 := by unfold Opn; split <;> simp
-- seasons
def Se (G : Gd) (b : Nat) (d : Int32) : Int32 := if (G 10 b).toInt ≤ d.toInt ∧ d.toInt ≤ (G 11 b).toInt then 1 else 0
theorem x_season {σ : Sig} {n : Nat} {G : Gd} {b d : Int32} (hb : 0 ≤ b.toInt ∧ b.toInt < 8) : f0_hasSeasonOn n b d (xg σ n G) = some (Se G b.toInt.toNat d) := by
  unfold f0_hasSeasonOn Se
  simp only [nm_ap, bnd_ap, bns_ap, bnx_ap0, bnx_ap1, bnx_ap2, bnx_ap3, bnx_ap4, gz_0, gz_1, dvd_96, dvd_2, dvd_10000, rmd_96, rmd_8, xg_at, xg_0, mr_at, up_xg, up_mr, narz_0, narz_1, i10, i01, i11, i00, ↓reduceIte, e10, e01, e50, e51, e20, e60, e70, e30, e40, Classical.not_not, not_true_eq_false, not_false_eq_true]
  rw [ald_in hb, ald_in hb]
  simp only [Int32.lt_iff_toInt_lt, Int32.le_iff_toInt_le, ← Int32.toInt_inj, Int32.reduceToInt, Int.reduceEq, Int.reduceLT, Int.reduceLE, Int.reduceNeg, ↓reduceIte, not_true_eq_false, not_false_eq_true]
  repeat' split
  all_goals first | rfl | (exfalso; omega)
theorem m_season {G : Gd} {w : Rw} (h : RG G w) (hi : Iv G) (τ : Sig) {b : Int32} (hb : 0 ≤ b.toInt ∧ b.toInt < (G 3 0).toInt) : f12_inSeason b (mr τ w) = some (Se G b.toInt.toNat (Td G)) := by
  have h8 : 0 ≤ b.toInt ∧ b.toInt < 8 := by have := hi.1; omega
  have hn : ((b.toInt.toNat : Nat) : Int) < (G 3 0).toInt := by omega
  unfold f12_inSeason Se
  simp only [m_today h, mb_2 h8, mb_3 h8, h.b2 hn, h.b3 hn, nm_ap, bnd_ap, bns_ap, bnx_ap0, bnx_ap1, bnx_ap2, bnx_ap3, bnx_ap4, gz_0, gz_1, dvd_96, dvd_2, dvd_10000, rmd_96, rmd_8, xg_at, xg_0, mr_at, up_xg, up_mr, narz_0, narz_1, i10, i01, i11, i00, ↓reduceIte, e10, e01, e50, e51, e20, e60, e70, e30, e40, Classical.not_not, not_true_eq_false, not_false_eq_true, Int32.lt_iff_toInt_lt, Int32.le_iff_toInt_le, ← Int32.toInt_inj, Int32.reduceToInt, Int.reduceEq, Int.reduceLT, Int.reduceLE, Int.reduceNeg, ↓reduceIte, not_true_eq_false, not_false_eq_true]
  repeat' split
  all_goals first | rfl | (exfalso; omega)
theorem Se_b (G : Gd) (b : Nat) (d : Int32) : Se G b d = 0 ∨ Se G b d = 1 := by unfold Se; split <;> simp
