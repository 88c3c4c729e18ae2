/-! the class alone, out of the whole check's mathematics -/
abbrev Gd : Type := Nat → Nat → Int32
abbrev Rw : Type := Nat → Int32
theorem ti_add {a b : Int32} (h : -2147483648 ≤ a.toInt + b.toInt ∧ a.toInt + b.toInt < 2147483648) : (a + b).toInt = a.toInt + b.toInt := by
  rw [Int32.toInt_add]; exact Int.bmod_eq_of_le (by omega) (by omega)
theorem ti_sub {a b : Int32} (h : -2147483648 ≤ a.toInt - b.toInt ∧ a.toInt - b.toInt < 2147483648) : (a - b).toInt = a.toInt - b.toInt := by
  rw [Int32.toInt_sub]; exact Int.bmod_eq_of_le (by omega) (by omega)
theorem ti_mul {a b : Int32} (h : -2147483648 ≤ a.toInt * b.toInt ∧ a.toInt * b.toInt < 2147483648) : (a * b).toInt = a.toInt * b.toInt := by
  rw [Int32.toInt_mul]; exact Int.bmod_eq_of_le (by omega) (by omega)
theorem ti_div {a b : Int32} (ha : 0 ≤ a.toInt) (hb : 0 < b.toInt) : (a / b).toInt = a.toInt / b.toInt := by
  rw [Int32.toInt_div_of_ne_right _ _ (by intro e; subst e; exact absurd hb (by decide)), Int.tdiv_eq_ediv_of_nonneg ha]
theorem tv_add {a b : Int32} {x y : Int} (ha : a.toInt = x) (hb : b.toInt = y) (h : -2147483648 ≤ x + y ∧ x + y < 2147483648) : (a + b).toInt = x + y := by subst ha hb; exact ti_add h
theorem tv_sub {a b : Int32} {x y : Int} (ha : a.toInt = x) (hb : b.toInt = y) (h : -2147483648 ≤ x - y ∧ x - y < 2147483648) : (a - b).toInt = x - y := by subst ha hb; exact ti_sub h
theorem tv_mul {a b : Int32} {x y : Int} (ha : a.toInt = x) (hb : b.toInt = y) (h : -2147483648 ≤ x * y ∧ x * y < 2147483648) : (a * b).toInt = x * y := by subst ha hb; exact ti_mul h
theorem tv_div {a b : Int32} {x y : Int} (ha : a.toInt = x) (hb : b.toInt = y) (h : 0 ≤ x ∧ 0 < y) : (a / b).toInt = x / y := by subst ha hb; exact ti_div h.1 h.2
theorem ti_ext {a b : Int32} (h : a.toInt = b.toInt) : a = b := Int32.toInt_inj.mp h
theorem ti_hi (a : Int32) : a.toInt < 2147483648 := a.toInt_lt
theorem ald_in {β : Type} {s : Nat → Int32} {n : Nat} {i : Int32} {f : Int32 → Option β} (h : 0 ≤ i.toInt ∧ i.toInt < n) : ald s n i f = f (s i.toInt.toNat) := by
  unfold ald
  rw [if_neg]
  · rfl
  · rintro (q | q)
    · rw [Int32.lt_iff_toInt_lt] at q; have : (0 : Int32).toInt = 0 := rfl; omega
    · rw [show i.toNatClampNeg = i.toInt.toNat from rfl] at q; omega
theorem ast_in {β : Type} {σ : Sig} {g c n : Nat} {i v : Int32} {f : Sig → Option β} (h : 0 ≤ i.toInt ∧ i.toInt < n) : ast σ g c n i v f = f (up σ g c i.toInt.toNat v) := by
  unfold ast
  rw [if_neg]
  · rfl
  · rintro (q | q)
    · rw [Int32.lt_iff_toInt_lt] at q; have : (0 : Int32).toInt = 0 := rfl; omega
    · rw [show i.toNatClampNeg = i.toInt.toNat from rfl] at q; omega
theorem nm_ap {α β : Type} (a : α) (f : α → β) : nm a f = f a := rfl
theorem bnd_ap {α β : Type} (a : α) (f : α → Option β) : bnd (some a) f = f a := rfl
theorem bns_ap {β : Type} (a : Int32) (s : Sig) (f : Int32 → Sig → Option β) : bns (some (a, s)) f = f a s := rfl
theorem bnx_ap0 (a : Int32) (s : Sig) (f : Int32 → Sig → Option Xe) : bnx (some (0, a, s)) f = f a s := rfl
theorem bnx_ap1 (a : Int32) (s : Sig) (f : Int32 → Sig → Option Xe) : bnx (some (1, a, s)) f = some (1, 0, s) := rfl
theorem bnx_ap2 (a : Int32) (s : Sig) (f : Int32 → Sig → Option Xe) : bnx (some (2, a, s)) f = some (2, 0, s) := rfl
theorem bnx_ap3 (a : Int32) (s : Sig) (f : Int32 → Sig → Option Xe) : bnx (some (3, a, s)) f = some (3, 0, s) := rfl
theorem bnx_ap4 (a : Int32) (s : Sig) (f : Int32 → Sig → Option Xe) : bnx (some (4, a, s)) f = some (4, 0, s) := rfl
theorem gz_0 {β : Type} (x : Option β) : gz 0 x = x := rfl
theorem gz_1 {β : Type} (x : Option β) : gz 1 x = x := rfl
theorem dvd_ok {β : Type} {x y : Int32} (h : ¬ y = 0) (f : Int32 → Option β) : dvd x y f = f (x / y) := by unfold dvd; exact if_neg h
theorem rmd_ok {β : Type} {x y : Int32} (h : ¬ y = 0) (f : Int32 → Option β) : rmd x y f = f (x - x / y * y) := by unfold rmd; exact if_neg h
theorem dvd_96 {β : Type} (x : Int32) (f : Int32 → Option β) : dvd x 96 f = f (x / 96) := dvd_ok (by decide) f
theorem dvd_2 {β : Type} (x : Int32) (f : Int32 → Option β) : dvd x 2 f = f (x / 2) := dvd_ok (by decide) f
theorem dvd_10000 {β : Type} (x : Int32) (f : Int32 → Option β) : dvd x 10000 f = f (x / 10000) := dvd_ok (by decide) f
theorem rmd_96 {β : Type} (x : Int32) (f : Int32 → Option β) : rmd x 96 f = f (x - x / 96 * 96) := rmd_ok (by decide) f
theorem rmd_8 {β : Type} (x : Int32) (f : Int32 → Option β) : rmd x 8 f = f (x - x / 8 * 8) := rmd_ok (by decide) f
theorem narz_0 : vp_nar .boolean 0 = 0 := by decide +kernel
theorem narz_1 : vp_nar .boolean 1 = 1 := by decide +kernel
theorem narz_ok {v : Int32} (h : v = 0 ∨ v = 1) : vp_nar .boolean v = v := by
  rcases h with rfl | rfl
  · exact narz_0
  · exact narz_1
theorem i10 {c : Prop} [Decidable c] : ((if c then (1 : Int32) else 0) = 0) ↔ ¬ c := by split <;> simp_all
theorem i01 {c : Prop} [Decidable c] : ((if c then (0 : Int32) else 1) = 0) ↔ c := by split <;> simp_all
theorem i11 {c : Prop} [Decidable c] : ((if c then (1 : Int32) else 0) = 1) ↔ c := by split <;> simp_all
theorem i00 {c : Prop} [Decidable c] : ((if c then (0 : Int32) else 1) = 1) ↔ ¬ c := by split <;> simp_all
theorem e10 : ((1 : Int32) = 0) ↔ False := by decide
theorem e01 : ((0 : Int32) = 1) ↔ False := by decide
theorem e20 : ((2 : Int32) = 0) ↔ False := by decide
theorem e30 : ((3 : Int32) = 0) ↔ False := by decide
theorem e40 : ((4 : Int32) = 0) ↔ False := by decide
theorem e50 : ((5 : Int32) = 0) ↔ False := by decide
theorem e60 : ((6 : Int32) = 0) ↔ False := by decide
theorem e70 : ((7 : Int32) = 0) ↔ False := by decide
theorem e51 : ((5 : Int32) = 1) ↔ False := by decide
theorem upd_at (f : Nat → Int32) (k : Nat) (x : Int32) : upd f k x k = x := if_pos rfl
theorem upd_ne (f : Nat → Int32) {k j : Nat} (x : Int32) (h : ¬ j = k) : upd f k x j = f j := if_neg h
theorem upd_self (f : Nat → Int32) (k : Nat) : upd f k (f k) = f := by
  funext j
  unfold upd
  split
  · rename_i h; rw [h]
  · rfl
def xg (σ : Sig) (n : Nat) (G : Gd) : Sig := fun g c => if g = n + 1 then G c else σ g c
def mr (τ : Sig) (w : Rw) : Sig := fun g c => if g = 0 ∧ c = 1 then w else τ g c
def p2 (G : Gd) (c j : Nat) (v : Int32) : Gd := fun c' => if c' = c then upd (G c) j v else G c'
def pr (G : Gd) (c : Nat) (f : Nat → Int32) : Gd := fun c' => if c' = c then f else G c'
theorem xg_at (σ : Sig) (n : Nat) (G : Gd) (c : Nat) : xg σ n G (n + 1) c = G c := by unfold xg; rw [if_pos rfl]
theorem xg_ne (σ : Sig) {n g : Nat} (G : Gd) (c : Nat) (h : ¬ g = n + 1) : xg σ n G g c = σ g c := by unfold xg; rw [if_neg h]
theorem xg_0 (σ : Sig) (n : Nat) (G : Gd) (c : Nat) : xg σ n G 0 c = σ 0 c := xg_ne σ G c (by omega)
theorem xg_self (σ : Sig) (n : Nat) : xg σ n (σ (n + 1)) = σ := by
  funext g c
  unfold xg
  split
  · rename_i h; rw [h]
  · rfl
theorem xg_sb (σ : Sig) (n : Nat) (G G' : Gd) : xg (xg σ n G) n G' = xg σ n G' := by
  funext g c
  unfold xg
  split <;> rfl
theorem mr_at (τ : Sig) (w : Rw) : mr τ w 0 1 = w := by unfold mr; exact if_pos ⟨rfl, rfl⟩
theorem up_xg (σ : Sig) (n : Nat) (G : Gd) (c j : Nat) (v : Int32) : up (xg σ n G) (n + 1) c j v = xg σ n (p2 G c j v) := by
  funext g c'
  unfold up xg p2
  by_cases h : g = n + 1
  · subst h; simp
  · simp [h]
theorem ur_xg (σ : Sig) (n : Nat) (G : Gd) (c : Nat) (f : Nat → Int32) : ur (xg σ n G) (n + 1) c f = xg σ n (pr G c f) := by
  funext g c'
  unfold ur xg pr
  by_cases h : g = n + 1
  · subst h; simp
  · simp [h]
theorem up_mr (τ : Sig) (w : Rw) (j : Nat) (v : Int32) : up (mr τ w) 0 1 j v = mr τ (upd w j v) := by
  funext g c'
  unfold up mr
  by_cases h : g = 0 ∧ c' = 1
  · obtain ⟨rfl, rfl⟩ := h; simp
  · simp [h]
theorem up_xg0 (σ : Sig) (n : Nat) (G : Gd) (c j : Nat) (v : Int32) : up (xg σ n G) 0 c j v = xg (up σ 0 c j v) n G := by
  funext g c'
  unfold up xg
  by_cases h : g = n + 1
  · subst h; simp
  · by_cases h2 : g = 0 ∧ c' = c
    · obtain ⟨rfl, rfl⟩ := h2; simp
    · simp [h, h2]
theorem p2_at (G : Gd) (c j : Nat) (v : Int32) : p2 G c j v c = upd (G c) j v := if_pos rfl
theorem p2_ne (G : Gd) {c c' : Nat} (j : Nat) (v : Int32) (h : ¬ c' = c) : p2 G c j v c' = G c' := if_neg h
theorem p2_if (G : Gd) (c j : Nat) (v : Int32) (c' : Nat) : p2 G c j v c' = if c' = c then upd (G c) j v else G c' := rfl
theorem p2_self (G : Gd) (c j : Nat) : p2 G c j (G c j) = G := by
  funext c'
  unfold p2
  split
  · rename_i h; rw [h, upd_self]
  · rfl
theorem pr_ne (G : Gd) {c c' : Nat} (f : Nat → Int32) (h : ¬ c' = c) : pr G c f c' = G c' := if_neg h
def sm (f : Nat → Int32) : Nat → Int
  | 0 => 0
  | k + 1 => sm f k + (f k).toInt
theorem sm_congr {f g : Nat → Int32} {n : Nat} (h : ∀ k, k < n → f k = g k) : sm f n = sm g n := by
  induction n with
  | zero => rfl
  | succ n ih => simp only [sm]; rw [ih (fun k hk => h k (by omega)), h n (by omega)]
theorem sm_upd_out {f : Nat → Int32} {n k : Nat} {x : Int32} (h : n ≤ k) : sm (upd f k x) n = sm f n := sm_congr (fun j hj => upd_ne _ _ (by omega))
theorem sm_upd {f : Nat → Int32} {n k : Nat} {x : Int32} (h : k < n) : sm (upd f k x) n = sm f n - (f k).toInt + x.toInt := by
  induction n with
  | zero => omega
  | succ n ih =>
    simp only [sm]
    by_cases e : k = n
    · subst e; rw [upd_at, sm_upd_out (Nat.le_refl _)]; omega
    · rw [ih (by omega), upd_ne _ _ (fun z => e z.symm)]; omega
theorem sm_nonneg {f : Nat → Int32} {n : Nat} (h : ∀ k, k < n → 0 ≤ (f k).toInt) : 0 ≤ sm f n := by
  induction n with
  | zero => exact Int.le_refl 0
  | succ n ih => simp only [sm]; have := ih (fun k hk => h k (by omega)); have := h n (by omega); omega
theorem sm_le {f : Nat → Int32} {n : Nat} {B : Int} (h : ∀ k, k < n → (f k).toInt ≤ B) : sm f n ≤ n * B := by
  induction n with
  | zero => simp [sm]
  | succ n ih =>
    simp only [sm]
    have h1 := ih (fun k hk => h k (by omega)); have h2 := h n (by omega)
    have h3 : ((n + 1 : Nat) : Int) * B = n * B + B := by rw [Int.natCast_add, Int.add_mul]; simp
    omega
theorem sm_zero {f : Nat → Int32} {n : Nat} (h : ∀ k, k < n → 0 ≤ (f k).toInt) (hz : sm f n = 0) : ∀ k, k < n → (f k).toInt = 0 := by
  induction n with
  | zero => intro k hk; omega
  | succ n ih =>
    simp only [sm] at hz
    have h0 := sm_nonneg (fun k hk => h k (by omega) : ∀ k, k < n → 0 ≤ (f k).toInt)
    have h1 := h n (by omega)
    intro k hk
    by_cases e : k = n
    · subst e; omega
    · exact ih (fun k hk => h k (by omega)) (by omega) k (by omega)
def Iv (G : Gd) : Prop :=
  (0 ≤ (G 2 0).toInt ∧ (G 2 0).toInt ≤ 5 ∧ 0 ≤ (G 3 0).toInt ∧ (G 3 0).toInt ≤ 8 ∧ 0 ≤ (G 4 0).toInt ∧ (G 4 0).toInt ≤ 30 ∧ 0 ≤ (G 5 0).toInt ∧ (G 5 0).toInt ≤ 50 ∧ 0 ≤ (G 1 0).toInt ∧ (G 1 0).toInt ≤ 9599 ∧ 0 ≤ (G 0 6).toInt ∧ (G 0 6).toInt ≤ 8 ∧ 1 ≤ (G 2 1).toInt ∧ (G 2 1).toInt ≤ 20)
  ∧ (∀ i : Nat, (i : Int) < (G 2 0).toInt → 1 ≤ (G 7 i).toInt ∧ (G 7 i).toInt ≤ 99)
  ∧ (∀ b : Nat, (b : Int) < (G 3 0).toInt → 1 ≤ (G 9 b).toInt ∧ (G 9 b).toInt ≤ 20 ∧ 0 ≤ (G 14 b).toInt ∧ (G 14 b).toInt ≤ 20 ∧ 0 ≤ (G 13 b).toInt ∧ (G 13 b).toInt ≤ 20 * (G 1 0).toInt + (G 14 b).toInt ∧ 0 ≤ (G 12 b).toInt ∧ (G 12 b).toInt ≤ 50)
  ∧ (∀ p : Nat, (p : Int) < (G 4 0).toInt → 0 ≤ (G 16 p).toInt ∧ (G 16 p).toInt ≤ 99 ∧ 1 ≤ (G 17 p).toInt ∧ (G 17 p).toInt ≤ 14 ∧ 0 ≤ (G 18 p).toInt ∧ (G 18 p).toInt ≤ 1 ∧ -1 ≤ (G 20 p).toInt ∧ (G 20 p).toInt < (G 5 0).toInt ∧ 0 ≤ (G 21 p).toInt ∧ (G 21 p).toInt ≤ 1 ∧ 0 ≤ (G 22 p).toInt ∧ (G 22 p).toInt < 16384 ∧ 0 ≤ (G 23 p).toInt ∧ ((G 22 p).toInt = 0 ↔ (G 23 p).toInt = 0) ∧ -1 ≤ (G 24 p).toInt ∧ (G 24 p).toInt ≤ (G 1 0).toInt ∧ -1 ≤ (G 25 p).toInt ∧ (G 25 p).toInt < (G 3 0).toInt ∧ (0 ≤ (G 24 p).toInt → 0 ≤ (G 25 p).toInt) ∧ 0 ≤ (G 19 p).toInt ∧ (G 19 p).toInt ≤ 6930 ∧ 0 ≤ (G 26 p).toInt ∧ (G 26 p).toInt ≤ 2030 ∧ ((G 24 p).toInt = (G 1 0).toInt → (G 26 p).toInt + 40 * (G 12 (G 25 p).toInt.toNat).toInt ≤ 2030))
  ∧ (∀ k : Nat, (k : Int) < (G 5 0).toInt → 0 ≤ (G 27 k).toInt ∧ (G 27 k).toInt < (G 4 0).toInt ∧ 0 ≤ (G 28 k).toInt ∧ (G 28 k).toInt ≤ 1)
  ∧ sm (G 23) (G 4 0).toInt.toNat = sm (G 13) (G 3 0).toInt.toNat
/-! the class alone, out of the whole check's mathematics -/
def Td (G : Gd) : Int32 := G 1 0 / 96
def Tk (G : Gd) : Int32 := G 1 0 - G 1 0 / 96 * 96
def Opn (G : Gd) (x : Int32) : Int32 := if 32 ≤ x.toInt ∧ x.toInt ≤ 67 ∧ ¬ ((G 1 1).toInt ≤ x.toInt ∧ x.toInt ≤ (G 1 2).toInt) then 1 else 0
theorem x_today (σ : Sig) (n : Nat) (G : Gd) : f3_today n (xg σ n G) = some (Td G) := by
  simp only [f3_today, nm_ap, bnd_ap, bns_ap, bnx_ap0, bnx_ap1, bnx_ap2, bnx_ap3, bnx_ap4, gz_0, gz_1, dvd_96, dvd_2, dvd_10000, rmd_96, rmd_8, xg_at, xg_0, mr_at, up_xg, up_mr, narz_0, narz_1, i10, i01, i11, i00, ↓reduceIte, e10, e01, e50, e51, e20, e60, e70, e30, e40, Classical.not_not, not_true_eq_false, not_false_eq_true]; rfl
theorem x_tick (σ : Sig) (n : Nat) (G : Gd) : f3_tickOfDay n (xg σ n G) = some (Tk G) := by
  simp only [f3_tickOfDay, nm_ap, bnd_ap, bns_ap, bnx_ap0, bnx_ap1, bnx_ap2, bnx_ap3, bnx_ap4, gz_0, gz_1, dvd_96, dvd_2, dvd_10000, rmd_96, rmd_8, xg_at, xg_0, mr_at, up_xg, up_mr, narz_0, narz_1, i10, i01, i11, i00, ↓reduceIte, e10, e01, e50, e51, e20, e60, e70, e30, e40, Classical.not_not, not_true_eq_false, not_false_eq_true]; rfl
theorem Td_in {G : Gd} (h : Iv G) : (Td G).toInt = (G 1 0).toInt / 96 ∧ 0 ≤ (Td G).toInt ∧ (Td G).toInt ≤ 99 := by
  have hi := h.1
  have e : (96 : Int32).toInt = 96 := rfl
  have : (Td G).toInt = (G 1 0).toInt / 96 := by exact tv_div rfl e (by omega)
  omega
theorem Tk_in {G : Gd} (h : Iv G) : (Tk G).toInt = (G 1 0).toInt % 96 := by
  have hi := h.1
  have e : (96 : Int32).toInt = 96 := rfl
  have h1 : (G 1 0 / 96).toInt = (G 1 0).toInt / 96 := tv_div rfl e (by omega)
  have h2 : (G 1 0 / 96 * 96).toInt = (G 1 0).toInt / 96 * 96 := tv_mul h1 e (by omega)
  unfold Tk
  rw [ti_sub (by omega), h2]
  omega
theorem x_isOpen (σ : Sig) (n : Nat) (G : Gd) (x : Int32) : f3_isOpenIn n x (xg σ n G) = some (Opn G x) := by
  unfold f3_isOpenIn f3_isOpenIn_b20 f3_isOpenIn_b21 Opn
  simp only [nm_ap, bnd_ap, bns_ap, bnx_ap0, bnx_ap1, bnx_ap2, bnx_ap3, bnx_ap4, gz_0, gz_1, dvd_96, dvd_2, dvd_10000, rmd_96, rmd_8, xg_at, xg_0, mr_at, up_xg, up_mr, narz_0, narz_1, i10, i01, i11, i00, ↓reduceIte, e10, e01, e50, e51, e20, e60, e70, e30, e40, Classical.not_not, not_true_eq_false, not_false_eq_true, Int32.lt_iff_toInt_lt, Int32.le_iff_toInt_le, ← Int32.toInt_inj, Int32.reduceToInt, Int.reduceEq, Int.reduceLT, Int.reduceLE, Int.reduceNeg, ↓reduceIte, not_true_eq_false, not_false_eq_true]
  repeat' split
  all_goals first | rfl | (exfalso; omega)
theorem Opn_b (G : Gd) (x : Int32) : Opn G x = 0 ∨ Opn G x = 1 := by unfold Opn; split <;> simp
def Se (G : Gd) (b : Nat) (d : Int32) : Int32 := if (G 10 b).toInt ≤ d.toInt ∧ d.toInt ≤ (G 11 b).toInt then 1 else 0
theorem x_season {σ : Sig} {n : Nat} {G : Gd} {b d : Int32} (hb : 0 ≤ b.toInt ∧ b.toInt < 8) : f0_hasSeasonOn n b d (xg σ n G) = some (Se G b.toInt.toNat d) := by
  unfold f0_hasSeasonOn Se
  simp only [nm_ap, bnd_ap, bns_ap, bnx_ap0, bnx_ap1, bnx_ap2, bnx_ap3, bnx_ap4, gz_0, gz_1, dvd_96, dvd_2, dvd_10000, rmd_96, rmd_8, xg_at, xg_0, mr_at, up_xg, up_mr, narz_0, narz_1, i10, i01, i11, i00, ↓reduceIte, e10, e01, e50, e51, e20, e60, e70, e30, e40, Classical.not_not, not_true_eq_false, not_false_eq_true]
  rw [ald_in hb, ald_in hb]
  simp only [Int32.lt_iff_toInt_lt, Int32.le_iff_toInt_le, ← Int32.toInt_inj, Int32.reduceToInt, Int.reduceEq, Int.reduceLT, Int.reduceLE, Int.reduceNeg, ↓reduceIte, not_true_eq_false, not_false_eq_true]
  repeat' split
  all_goals first | rfl | (exfalso; omega)
theorem Se_b (G : Gd) (b : Nat) (d : Int32) : Se G b d = 0 ∨ Se G b d = 1 := by unfold Se; split <;> simp
/-! the class alone, out of the whole check's mathematics -/
theorem oN (k : Nat) (h : k < 2147483648) : (Int32.ofNat k).toInt = k := Int32.toInt_ofNat_of_lt h
theorem oN1 (k : Nat) : Int32.ofNat k + 1 = Int32.ofNat (k + 1) := (Int32.ofNat_add k 1).symm
theorem and1 (x : Int32) : x &&& 1 = 0 ∨ x &&& 1 = 1 := by
  have h : (x.toBitVec &&& 1#32) = 0#32 ∨ (x.toBitVec &&& 1#32) = 1#32 := by
    have e : (x.toBitVec &&& 1#32).toNat = x.toBitVec.toNat % 2 := by rw [BitVec.toNat_and]; exact Nat.and_one_is_mod _
    rcases (show x.toBitVec.toNat % 2 = 0 ∨ x.toBitVec.toNat % 2 = 1 by omega) with q | q
    · left; apply BitVec.eq_of_toNat_eq; rw [e, q]; rfl
    · right; apply BitVec.eq_of_toNat_eq; rw [e, q]; rfl
  rcases h with h | h
  · left; exact Int32.toBitVec_inj.mp h
  · right; exact Int32.toBitVec_inj.mp h
def pzs (set : Int32) (f : Nat → Int32) : Nat → Int32
  | 0 => 0
  | k + 1 => if (set >>> (Int32.ofNat k &&& 31)) &&& 1 = 1 then pzs set f k + f k else pzs set f k
def pct (d : Int32) : Int32 := if d.toInt < 3 then 100 else if d.toInt < 6 then 90 else 80
def Pz (N : Nat) (f : Nat → Int32) (set days kind : Int32) : Int32 := pzs set f N * days * (if kind.toInt = 1 then 60 else 100) * pct days / 10000
theorem pzs_in {set : Int32} {f : Nat → Int32} {N : Nat} (hN : N ≤ 5) (h : ∀ i, i < N → 1 ≤ (f i).toInt ∧ (f i).toInt ≤ 99) : 0 ≤ (pzs set f N).toInt ∧ (pzs set f N).toInt ≤ 99 * N := by
  induction N with
  | zero => simp only [pzs]; decide
  | succ N ih =>
    have h1 := ih (by omega) (fun i hi => h i (by omega)); have h2 := h N (by omega)
    simp only [pzs]
    split
    · rw [ti_add (by omega)]; omega
    · omega
theorem pct_in (d : Int32) : 80 ≤ (pct d).toInt ∧ (pct d).toInt ≤ 100 := by
  unfold pct; split
  · decide
  · split <;> decide
theorem mul_in {a b : Int} {A B : Int} (ha : 0 ≤ a ∧ a ≤ A) (hb : 0 ≤ b ∧ b ≤ B) : 0 ≤ a * b ∧ a * b ≤ A * B := ⟨Int.mul_nonneg ha.1 hb.1, Int.mul_le_mul ha.2 hb.2 hb.1 (by omega)⟩
theorem Pz_in {set days kind : Int32} {f : Nat → Int32} {N : Nat} (hN : N ≤ 5) (h : ∀ i, i < N → 1 ≤ (f i).toInt ∧ (f i).toInt ≤ 99) (hd : 1 ≤ days.toInt ∧ days.toInt ≤ 14) : 0 ≤ (Pz N f set days kind).toInt ∧ (Pz N f set days kind).toInt ≤ 6930 := by
  have h1 := pzs_in (set := set) hN h
  have h2 := mul_in (a := (pzs set f N).toInt) (A := 495) (b := days.toInt) (B := 14) (by omega) (by omega)
  have e2 : (pzs set f N * days).toInt = (pzs set f N).toInt * days.toInt := tv_mul rfl rfl (by omega)
  have h3 : 60 ≤ (if kind.toInt = 1 then 60 else 100 : Int32).toInt ∧ (if kind.toInt = 1 then 60 else 100 : Int32).toInt ≤ 100 := by split <;> decide
  have h4 := mul_in (a := (pzs set f N * days).toInt) (A := 6930) (b := (if kind.toInt = 1 then 60 else 100 : Int32).toInt) (B := 100) (by omega) (by omega)
  have e4 : (pzs set f N * days * (if kind.toInt = 1 then 60 else 100)).toInt = (pzs set f N * days).toInt * (if kind.toInt = 1 then 60 else 100 : Int32).toInt := tv_mul rfl rfl (by omega)
  have h5 := pct_in days
  have h6 := mul_in (a := (pzs set f N * days * (if kind.toInt = 1 then 60 else 100)).toInt) (A := 693000) (b := (pct days).toInt) (B := 100) (by omega) (by omega)
  have e6 : (pzs set f N * days * (if kind.toInt = 1 then 60 else 100) * pct days).toInt = (pzs set f N * days * (if kind.toInt = 1 then 60 else 100)).toInt * (pct days).toInt := tv_mul rfl rfl (by omega)
  have e7 : (Pz N f set days kind).toInt = (pzs set f N * days * (if kind.toInt = 1 then 60 else 100) * pct days).toInt / 10000 := tv_div rfl rfl (by omega)
  omega
theorem x_pct (d : Int32) : f10_percentForDays d = some (pct d) := by
  unfold f10_percentForDays pct
  simp only [Int32.lt_iff_toInt_lt, Int32.le_iff_toInt_le, ← Int32.toInt_inj, Int32.reduceToInt, Int.reduceEq, Int.reduceLT, Int.reduceLE, Int.reduceNeg, ↓reduceIte, not_true_eq_false, not_false_eq_true]
  repeat' split
  all_goals first | rfl | (exfalso; omega)
theorem x_price_l {σ : Sig} {n : Nat} {G : Gd} {set days kind : Int32} (hs : 0 ≤ (G 2 0).toInt ∧ (G 2 0).toInt ≤ 5) : ∀ (fu k : Nat), k ≤ (G 2 0).toInt.toNat → (G 2 0).toInt.toNat < fu + k → f10_priceOfPass_b6 n fu set days kind (pzs set (G 7) k) (Int32.ofNat k) (xg σ n G) = some (Pz (G 2 0).toInt.toNat (G 7) set days kind) := by
  intro fu
  induction fu with
  | zero => intro k h1 h2; omega
  | succ fu ih =>
    intro k h1 h2
    have ek := oN k (by omega)
    rw [f10_priceOfPass_b6]
    simp only [nm_ap, bnd_ap, bns_ap, bnx_ap0, bnx_ap1, bnx_ap2, bnx_ap3, bnx_ap4, gz_0, gz_1, dvd_96, dvd_2, dvd_10000, rmd_96, rmd_8, xg_at, xg_0, mr_at, up_xg, up_mr, narz_0, narz_1, i10, i01, i11, i00, ↓reduceIte, e10, e01, e50, e51, e20, e60, e70, e30, e40, Classical.not_not, not_true_eq_false, not_false_eq_true]
    by_cases hk : k = (G 2 0).toInt.toNat
    · rw [if_pos (by rw [Int32.le_iff_toInt_le, ek]; omega)]
      unfold f10_priceOfPass_b55
      simp only [nm_ap, bnd_ap, bns_ap, bnx_ap0, bnx_ap1, bnx_ap2, bnx_ap3, bnx_ap4, gz_0, gz_1, dvd_96, dvd_2, dvd_10000, rmd_96, rmd_8, xg_at, xg_0, mr_at, up_xg, up_mr, narz_0, narz_1, i10, i01, i11, i00, ↓reduceIte, e10, e01, e50, e51, e20, e60, e70, e30, e40, Classical.not_not, not_true_eq_false, not_false_eq_true, x_pct]
      subst hk
      unfold Pz
      simp only [← Int32.toInt_inj, Int32.reduceToInt]
      split <;> rfl
    · rw [if_neg (by rw [Int32.le_iff_toInt_le, ek]; omega)]
      have q := ih (k + 1) (by omega) (by omega)
      unfold f10_priceOfPass_b37
      simp only [nm_ap, bnd_ap, bns_ap, bnx_ap0, bnx_ap1, bnx_ap2, bnx_ap3, bnx_ap4, gz_0, gz_1, dvd_96, dvd_2, dvd_10000, rmd_96, rmd_8, xg_at, xg_0, mr_at, up_xg, up_mr, narz_0, narz_1, i10, i01, i11, i00, ↓reduceIte, e10, e01, e50, e51, e20, e60, e70, e30, e40, Classical.not_not, not_true_eq_false, not_false_eq_true, oN1]
      split
      · rename_i hb
        rw [ald_in (by rw [ek]; omega), ek]
        simp only [nm_ap, bnd_ap, bns_ap, bnx_ap0, bnx_ap1, bnx_ap2, bnx_ap3, bnx_ap4, gz_0, gz_1, dvd_96, dvd_2, dvd_10000, rmd_96, rmd_8, xg_at, xg_0, mr_at, up_xg, up_mr, narz_0, narz_1, i10, i01, i11, i00, ↓reduceIte, e10, e01, e50, e51, e20, e60, e70, e30, e40, Classical.not_not, not_true_eq_false, not_false_eq_true, pzs, hb, if_true, Int.toNat_natCast] at q ⊢
        exact q
      · rename_i hb
        simp only [pzs, hb, if_false] at q
        exact q
theorem x_price {σ : Sig} {n : Nat} {G : Gd} {set days kind : Int32} (hs : 0 ≤ (G 2 0).toInt ∧ (G 2 0).toInt ≤ 5) : f10_priceOfPass n set days kind (xg σ n G) = some (Pz (G 2 0).toInt.toNat (G 7) set days kind) := x_price_l hs FU 0 (by omega) (by unfold FU; omega)
def Pr (G : Gd) (set days kind : Int32) : Int32 := Pz (G 2 0).toInt.toNat (G 7) set days kind
theorem Pr_in {G : Gd} (hi : Iv G) {set days kind : Int32} (hd : 1 ≤ days.toInt ∧ days.toInt ≤ 14) : 0 ≤ (Pr G set days kind).toInt ∧ (Pr G set days kind).toInt ≤ 6930 := by
  have h0 := hi.1
  exact Pz_in (by omega) (fun i hi' => hi.2.1 i (by omega)) hd
theorem Pr_congr {G G' : Gd} {set days kind : Int32} (h2 : G' 2 0 = G 2 0) (h7 : G' 7 = G 7) : Pr G' set days kind = Pr G set days kind := by
  unfold Pr; rw [h2, h7]
def Fn (G : Gd) (b : Nat) (bl : Int32) : Int32 := if Se G b (Td G) = 0 then G 2 1 * bl else 2 * G 2 1 * bl
theorem x_fine {σ : Sig} {n : Nat} {G : Gd} {b bl : Int32} (hb : 0 ≤ b.toInt ∧ b.toInt < 8) : f4_fineToday n b bl (xg σ n G) = some (Fn G b.toInt.toNat bl) := by
  unfold f4_fineToday f4_fineToday_b37 Fn
  simp only [nm_ap, bnd_ap, bns_ap, bnx_ap0, bnx_ap1, bnx_ap2, bnx_ap3, bnx_ap4, gz_0, gz_1, dvd_96, dvd_2, dvd_10000, rmd_96, rmd_8, xg_at, xg_0, mr_at, up_xg, up_mr, narz_0, narz_1, i10, i01, i11, i00, ↓reduceIte, e10, e01, e50, e51, e20, e60, e70, e30, e40, Classical.not_not, not_true_eq_false, not_false_eq_true, x_today, x_season hb]
  split <;> rfl
theorem Fn_in {G : Gd} (hi : Iv G) {b : Nat} {bl : Int32} (hb : 1 ≤ bl.toInt ∧ bl.toInt ≤ 9) : 0 ≤ (Fn G b bl).toInt ∧ (Fn G b bl).toInt ≤ 40 * bl.toInt := by
  have h0 := hi.1
  have h1 := mul_in (a := (G 2 1).toInt) (A := 20) (b := bl.toInt) (B := bl.toInt) (by omega) (by omega)
  have e1 : (G 2 1 * bl).toInt = (G 2 1).toInt * bl.toInt := tv_mul rfl rfl (by omega)
  have e0 : (2 * G 2 1).toInt = 2 * (G 2 1).toInt := tv_mul rfl rfl (by omega)
  have h2 := mul_in (a := 2 * (G 2 1).toInt) (A := 40) (b := bl.toInt) (B := bl.toInt) (by omega) (by omega)
  have e2 : (2 * G 2 1 * bl).toInt = 2 * (G 2 1).toInt * bl.toInt := tv_mul e0 rfl (by omega)
  unfold Fn
  split <;> omega
/-! the class alone, out of the whole check's mathematics -/
theorem Iv.b {G : Gd} (h : Iv G) {b : Nat} (hb : (b : Int) < (G 3 0).toInt) : 1 ≤ (G 9 b).toInt ∧ (G 9 b).toInt ≤ 20 ∧ 0 ≤ (G 14 b).toInt ∧ (G 14 b).toInt ≤ 20 ∧ 0 ≤ (G 13 b).toInt ∧ (G 13 b).toInt ≤ 20 * (G 1 0).toInt + (G 14 b).toInt ∧ 0 ≤ (G 12 b).toInt ∧ (G 12 b).toInt ≤ 50 := h.2.2.1 b hb
theorem Iv.p {G : Gd} (h : Iv G) {p : Nat} (hp : (p : Int) < (G 4 0).toInt) : 0 ≤ (G 16 p).toInt ∧ (G 16 p).toInt ≤ 99 ∧ 1 ≤ (G 17 p).toInt ∧ (G 17 p).toInt ≤ 14 ∧ 0 ≤ (G 18 p).toInt ∧ (G 18 p).toInt ≤ 1 ∧ -1 ≤ (G 20 p).toInt ∧ (G 20 p).toInt < (G 5 0).toInt ∧ 0 ≤ (G 21 p).toInt ∧ (G 21 p).toInt ≤ 1 ∧ 0 ≤ (G 22 p).toInt ∧ (G 22 p).toInt < 16384 ∧ 0 ≤ (G 23 p).toInt ∧ ((G 22 p).toInt = 0 ↔ (G 23 p).toInt = 0) ∧ -1 ≤ (G 24 p).toInt ∧ (G 24 p).toInt ≤ (G 1 0).toInt ∧ -1 ≤ (G 25 p).toInt ∧ (G 25 p).toInt < (G 3 0).toInt ∧ (0 ≤ (G 24 p).toInt → 0 ≤ (G 25 p).toInt) ∧ 0 ≤ (G 19 p).toInt ∧ (G 19 p).toInt ≤ 6930 ∧ 0 ≤ (G 26 p).toInt ∧ (G 26 p).toInt ≤ 2030 ∧ ((G 24 p).toInt = (G 1 0).toInt → (G 26 p).toInt + 40 * (G 12 (G 25 p).toInt.toNat).toInt ≤ 2030) := h.2.2.2.1 p hp
theorem Iv.k {G : Gd} (h : Iv G) {k : Nat} (hk : (k : Int) < (G 5 0).toInt) : 0 ≤ (G 27 k).toInt ∧ (G 27 k).toInt < (G 4 0).toInt ∧ 0 ≤ (G 28 k).toInt ∧ (G 28 k).toInt ≤ 1 := h.2.2.2.2.1 k hk
def cnt (u : Int32) (s : Nat) : Nat → Int32
  | 0 => 0
  | k + 1 => if s ≤ k ∧ (u >>> (Int32.ofNat k &&& 31)) &&& 1 = 0 then cnt u s k + 1 else cnt u s k
theorem cnt_0 (u : Int32) {s k : Nat} (h : k ≤ s) : cnt u s k = 0 := by
  induction k with
  | zero => rfl
  | succ k ih => rw [cnt, if_neg (by omega)]; exact ih (by omega)
theorem cnt_in (u : Int32) (s : Nat) {k : Nat} (h : k ≤ 1000) : 0 ≤ (cnt u s k).toInt ∧ (cnt u s k).toInt ≤ k := by
  induction k with
  | zero => simp only [cnt]; decide
  | succ k ih =>
    have h1 := ih (by omega)
    have e1 : (1 : Int32).toInt = 1 := rfl
    rw [cnt]
    split
    · rw [tv_add rfl e1 (by omega)]; omega
    · omega
def st (G : Gd) (p : Nat) : Nat := ((Td G).toInt - (G 16 p).toInt).toNat
def Dl (G : Gd) (p : Nat) : Int32 := cnt (G 22 p) (st G p) (G 17 p).toInt.toNat
theorem x_left_l {σ : Sig} {n : Nat} {G : Gd} {p : Int32} {s : Nat} (hp : 0 ≤ p.toInt ∧ p.toInt < 30) (hd : (G 17 p.toInt.toNat).toInt ≤ 14) (hs : s < 200) : ∀ (fu k : Nat), s ≤ k → k < 200 → 0 < fu → (G 17 p.toInt.toNat).toInt.toNat < fu + k → f7_countDaysLeft_b16 n fu p (cnt (G 22 p.toInt.toNat) s k) (Int32.ofNat k) (xg σ n G) = some (cnt (G 22 p.toInt.toNat) s (max k (G 17 p.toInt.toNat).toInt.toNat)) := by
  intro fu
  induction fu with
  | zero =>
    intro k h1 h2 h3 h4
    omega
  | succ fu ih =>
    intro k h1 h2 h3 h4
    have ek := oN k (by omega)
    rw [f7_countDaysLeft_b16]
    simp only [nm_ap, bnd_ap, bns_ap, bnx_ap0, bnx_ap1, bnx_ap2, bnx_ap3, bnx_ap4, gz_0, gz_1, dvd_96, dvd_2, dvd_10000, rmd_96, rmd_8, xg_at, xg_0, mr_at, up_xg, up_mr, narz_0, narz_1, i10, i01, i11, i00, ↓reduceIte, e10, e01, e50, e51, e20, e60, e70, e30, e40, Classical.not_not, not_true_eq_false, not_false_eq_true, ald_in (show 0 ≤ p.toInt ∧ p.toInt < ((30 : Nat) : Int) from hp)]
    by_cases hk : (G 17 p.toInt.toNat).toInt ≤ k
    · rw [if_pos (by rw [Int32.le_iff_toInt_le, ek]; exact hk), show max k (G 17 p.toInt.toNat).toInt.toNat = k by omega]
    · rw [if_neg (by rw [Int32.le_iff_toInt_le, ek]; exact hk)]
      have q := ih (k + 1) (by omega) (by omega) (by omega) (by omega)
      rw [show max (k + 1) (G 17 p.toInt.toNat).toInt.toNat = max k (G 17 p.toInt.toNat).toInt.toNat by omega] at q
      unfold f7_countDaysLeft_b44
      simp only [nm_ap, bnd_ap, bns_ap, bnx_ap0, bnx_ap1, bnx_ap2, bnx_ap3, bnx_ap4, gz_0, gz_1, dvd_96, dvd_2, dvd_10000, rmd_96, rmd_8, xg_at, xg_0, mr_at, up_xg, up_mr, narz_0, narz_1, i10, i01, i11, i00, ↓reduceIte, e10, e01, e50, e51, e20, e60, e70, e30, e40, Classical.not_not, not_true_eq_false, not_false_eq_true, oN1]
      rw [cnt] at q
      split
      · rename_i hb
        rw [if_pos ⟨h1, hb⟩] at q
        exact q
      · rename_i hb
        rw [if_neg (fun z => hb z.2)] at q
        exact q
theorem x_left {σ : Sig} {n : Nat} {G : Gd} (hi : Iv G) {p : Int32} (hp : 0 ≤ p.toInt ∧ p.toInt < (G 4 0).toInt) : f7_countDaysLeft n p (Td G) (xg σ n G) = some (Dl G p.toInt.toNat) := by
  have h0 := hi.1
  have h1 := hi.p (p := p.toInt.toNat) (by omega)
  have ht := Td_in hi
  have hp3 : 0 ≤ p.toInt ∧ p.toInt < 30 := by omega
  have es : (Td G - G 16 p.toInt.toNat).toInt = (Td G).toInt - (G 16 p.toInt.toNat).toInt := tv_sub rfl rfl (by omega)
  unfold f7_countDaysLeft
  simp only [nm_ap, bnd_ap, bns_ap, bnx_ap0, bnx_ap1, bnx_ap2, bnx_ap3, bnx_ap4, gz_0, gz_1, dvd_96, dvd_2, dvd_10000, rmd_96, rmd_8, xg_at, xg_0, mr_at, up_xg, up_mr, narz_0, narz_1, i10, i01, i11, i00, ↓reduceIte, e10, e01, e50, e51, e20, e60, e70, e30, e40, Classical.not_not, not_true_eq_false, not_false_eq_true, ald_in (show 0 ≤ p.toInt ∧ p.toInt < ((30 : Nat) : Int) from hp3)]
  have eq : (if (0 : Int32) < Td G - G 16 p.toInt.toNat then Td G - G 16 p.toInt.toNat else 0) = Int32.ofNat (st G p.toInt.toNat) := by
    apply ti_ext
    rw [oN _ (by unfold st; omega)]
    unfold st
    simp only [Int32.lt_iff_toInt_lt, Int32.le_iff_toInt_le, ← Int32.toInt_inj, Int32.reduceToInt, Int.reduceEq, Int.reduceLT, Int.reduceLE, Int.reduceNeg, ↓reduceIte, not_true_eq_false, not_false_eq_true]
    split <;> (try simp only [Int32.reduceToInt]) <;> omega
  rw [eq]
  have q := x_left_l (σ := σ) (n := n) (s := st G p.toInt.toNat) hp3 h1.2.2.2.1 (by unfold st; omega) FU (st G p.toInt.toNat) (Nat.le_refl _) (by unfold st; omega) (by decide) (by unfold FU; omega)
  rw [cnt_0 _ (Nat.le_refl _)] at q
  rw [q]
  unfold Dl
  by_cases hc : st G p.toInt.toNat ≤ (G 17 p.toInt.toNat).toInt.toNat
  · rw [show max (st G p.toInt.toNat) (G 17 p.toInt.toNat).toInt.toNat = (G 17 p.toInt.toNat).toInt.toNat by omega]
  · rw [show max (st G p.toInt.toNat) (G 17 p.toInt.toNat).toInt.toNat = st G p.toInt.toNat by omega, cnt_0 _ (Nat.le_refl _), cnt_0 _ (by omega)]
def Rd (G : Gd) (p : Nat) : Int32 := if (G 21 p).toInt = 0 then G 19 p * Dl G p / G 17 p / 2 else 0
theorem x_refund {σ : Sig} {n : Nat} {G : Gd} (hi : Iv G) {p : Int32} (hp : 0 ≤ p.toInt ∧ p.toInt < (G 4 0).toInt) : f4_refundNow n p (xg σ n G) = some (Rd G p.toInt.toNat) := by
  have h0 := hi.1
  have h1 := hi.p (p := p.toInt.toNat) (by omega)
  have hp3 : 0 ≤ p.toInt ∧ p.toInt < 30 := by omega
  have hd : ¬ G 17 p.toInt.toNat = 0 := fun z => by rw [z] at h1; have := h1.2.2.1; exact absurd this (by decide)
  unfold f4_refundNow Rd
  simp only [nm_ap, bnd_ap, bns_ap, bnx_ap0, bnx_ap1, bnx_ap2, bnx_ap3, bnx_ap4, gz_0, gz_1, dvd_96, dvd_2, dvd_10000, rmd_96, rmd_8, xg_at, xg_0, mr_at, up_xg, up_mr, narz_0, narz_1, i10, i01, i11, i00, ↓reduceIte, e10, e01, e50, e51, e20, e60, e70, e30, e40, Classical.not_not, not_true_eq_false, not_false_eq_true, ald_in (show 0 ≤ p.toInt ∧ p.toInt < ((30 : Nat) : Int) from hp3), x_today, x_left hi hp, dvd_ok hd, hd, if_false]
  simp only [← Int32.toInt_inj, Int32.reduceToInt]
  split <;> rfl
theorem Rd_in {G : Gd} (hi : Iv G) {p : Nat} (hp : (p : Int) < (G 4 0).toInt) : 0 ≤ (Rd G p).toInt ∧ (Rd G p).toInt ≤ 97020 := by
  have h0 := hi.1
  have h1 := hi.p hp
  have h2 := cnt_in (G 22 p) (st G p) (k := (G 17 p).toInt.toNat) (by omega)
  have h3 := mul_in (a := (G 19 p).toInt) (A := 6930) (b := (Dl G p).toInt) (B := 14) (by omega) (by unfold Dl; omega)
  have e1 : (G 19 p * Dl G p).toInt = (G 19 p).toInt * (Dl G p).toInt := tv_mul rfl rfl (by omega)
  have e2 : (G 19 p * Dl G p / G 17 p).toInt = (G 19 p).toInt * (Dl G p).toInt / (G 17 p).toInt := tv_div e1 rfl (by omega)
  have h4 : 0 ≤ (G 19 p).toInt * (Dl G p).toInt / (G 17 p).toInt := Int.ediv_nonneg (by omega) (by omega)
  have h5 : (G 19 p).toInt * (Dl G p).toInt / (G 17 p).toInt ≤ (G 19 p).toInt * (Dl G p).toInt := Int.ediv_le_self _ (by omega)
  have e3 : (G 19 p * Dl G p / G 17 p / 2).toInt = (G 19 p).toInt * (Dl G p).toInt / (G 17 p).toInt / 2 := tv_div e2 rfl (by omega)
  unfold Rd
  split
  · omega
  · decide
def Wt (G : Gd) (p : Nat) : Int32 := if (G 24 p).toInt = -1 then 0 else if (G 1 0).toInt ≤ (G 24 p).toInt + (G 0 6).toInt then G 24 p + G 0 6 - G 1 0 else 0
theorem x_wait {σ : Sig} {n : Nat} {G : Gd} (hi : Iv G) {p : Int32} (hp : 0 ≤ p.toInt ∧ p.toInt < (G 4 0).toInt) : f4_waitForNextVisit n p (xg σ n G) = some (Wt G p.toInt.toNat) := by
  have h0 := hi.1
  have h1 := hi.p (p := p.toInt.toNat) (by omega)
  have hp3 : 0 ≤ p.toInt ∧ p.toInt < 30 := by omega
  have e : (G 24 p.toInt.toNat + G 0 6).toInt = (G 24 p.toInt.toNat).toInt + (G 0 6).toInt := tv_add rfl rfl (by omega)
  unfold f4_waitForNextVisit Wt
  simp only [nm_ap, bnd_ap, bns_ap, bnx_ap0, bnx_ap1, bnx_ap2, bnx_ap3, bnx_ap4, gz_0, gz_1, dvd_96, dvd_2, dvd_10000, rmd_96, rmd_8, xg_at, xg_0, mr_at, up_xg, up_mr, narz_0, narz_1, i10, i01, i11, i00, ↓reduceIte, e10, e01, e50, e51, e20, e60, e70, e30, e40, Classical.not_not, not_true_eq_false, not_false_eq_true, ald_in (show 0 ≤ p.toInt ∧ p.toInt < ((30 : Nat) : Int) from hp3), Int32.lt_iff_toInt_lt, Int32.le_iff_toInt_le, ← Int32.toInt_inj, Int32.reduceToInt, Int.reduceEq, Int.reduceLT, Int.reduceLE, Int.reduceNeg, ↓reduceIte, not_true_eq_false, not_false_eq_true, e]
  repeat' split
  all_goals first | rfl | (exfalso; omega)
theorem Wt_in {G : Gd} (hi : Iv G) {p : Nat} (hp : (p : Int) < (G 4 0).toInt) : (0 < (Wt G p).toInt ↔ ¬ (G 24 p).toInt = -1 ∧ (G 1 0).toInt < (G 24 p).toInt + (G 0 6).toInt) := by
  have h0 := hi.1
  have h1 := hi.p hp
  have e : (G 24 p + G 0 6).toInt = (G 24 p).toInt + (G 0 6).toInt := tv_add rfl rfl (by omega)
  have e2 : (G 24 p + G 0 6 - G 1 0).toInt = (G 24 p).toInt + (G 0 6).toInt - (G 1 0).toInt := tv_sub e rfl (by omega)
  have ez : (0 : Int32).toInt = 0 := rfl
  unfold Wt
  repeat' split
  all_goals omega
def Rf (G : Gd) (k b : Nat) : Int32 :=
  if Opn G (Tk G) = 0 then 1 else if ¬ (G 28 k).toInt = 0 then 2
  else if ¬ ((G 16 (G 27 k).toInt.toNat).toInt ≤ (Td G).toInt ∧ (Td G).toInt < (G 16 (G 27 k).toInt.toNat).toInt + (G 17 (G 27 k).toInt.toNat).toInt) then 3
  else if (G 15 (G 27 k).toInt.toNat >>> (G 8 b &&& 31)) &&& 1 = 0 then 4
  else if 30 < (G 26 (G 27 k).toInt.toNat).toInt then 5
  else if ¬ (G 24 (G 27 k).toInt.toNat).toInt = -1 ∧ (G 1 0).toInt < (G 24 (G 27 k).toInt.toNat).toInt + (G 0 6).toInt then 6
  else if (G 9 b).toInt ≤ (G 14 b).toInt then 7 else 0
theorem x_valid {σ : Sig} {n : Nat} {G : Gd} (hi : Iv G) {p d : Int32} (hp : 0 ≤ p.toInt ∧ p.toInt < (G 4 0).toInt) : f7_isValidOn n p d (xg σ n G) = some (if (G 16 p.toInt.toNat).toInt ≤ d.toInt ∧ d.toInt < (G 16 p.toInt.toNat).toInt + (G 17 p.toInt.toNat).toInt then 1 else 0) := by
  have h0 := hi.1
  have h1 := hi.p (p := p.toInt.toNat) (by omega)
  have hp3 : 0 ≤ p.toInt ∧ p.toInt < 30 := by omega
  have e : (G 16 p.toInt.toNat + G 17 p.toInt.toNat).toInt = (G 16 p.toInt.toNat).toInt + (G 17 p.toInt.toNat).toInt := tv_add rfl rfl (by omega)
  unfold f7_isValidOn
  simp only [nm_ap, bnd_ap, bns_ap, bnx_ap0, bnx_ap1, bnx_ap2, bnx_ap3, bnx_ap4, gz_0, gz_1, dvd_96, dvd_2, dvd_10000, rmd_96, rmd_8, xg_at, xg_0, mr_at, up_xg, up_mr, narz_0, narz_1, i10, i01, i11, i00, ↓reduceIte, e10, e01, e50, e51, e20, e60, e70, e30, e40, Classical.not_not, not_true_eq_false, not_false_eq_true, ald_in (show 0 ≤ p.toInt ∧ p.toInt < ((30 : Nat) : Int) from hp3), Int32.lt_iff_toInt_lt, Int32.le_iff_toInt_le, ← Int32.toInt_inj, Int32.reduceToInt, Int.reduceEq, Int.reduceLT, Int.reduceLE, Int.reduceNeg, ↓reduceIte, not_true_eq_false, not_false_eq_true, e]
  repeat' split
  all_goals first | rfl | (exfalso; omega)
theorem x_hasScent {σ : Sig} {n : Nat} {G : Gd} {p sc : Int32} (hp : 0 ≤ p.toInt ∧ p.toInt < 30) : f7_hasScent n p sc (xg σ n G) = some (if (G 15 p.toInt.toNat >>> (sc &&& 31)) &&& 1 = 0 then 0 else 1) := by
  unfold f7_hasScent
  simp only [nm_ap, bnd_ap, bns_ap, bnx_ap0, bnx_ap1, bnx_ap2, bnx_ap3, bnx_ap4, gz_0, gz_1, dvd_96, dvd_2, dvd_10000, rmd_96, rmd_8, xg_at, xg_0, mr_at, up_xg, up_mr, narz_0, narz_1, i10, i01, i11, i00, ↓reduceIte, e10, e01, e50, e51, e20, e60, e70, e30, e40, Classical.not_not, not_true_eq_false, not_false_eq_true, ald_in (show 0 ≤ p.toInt ∧ p.toInt < ((30 : Nat) : Int) from hp)]
  rcases and1 (G 15 p.toInt.toNat >>> (sc &&& 31)) with h | h <;> rw [h] <;> rfl
theorem x_free {σ : Sig} {n : Nat} {G : Gd} {b : Int32} (hb : 0 ≤ b.toInt ∧ b.toInt < 8) : f0_freePlaces n b (xg σ n G) = some (G 9 b.toInt.toNat - G 14 b.toInt.toNat) := by
  unfold f0_freePlaces
  simp only [nm_ap, bnd_ap, bns_ap, bnx_ap0, bnx_ap1, bnx_ap2, bnx_ap3, bnx_ap4, gz_0, gz_1, dvd_96, dvd_2, dvd_10000, rmd_96, rmd_8, xg_at, xg_0, mr_at, up_xg, up_mr, narz_0, narz_1, i10, i01, i11, i00, ↓reduceIte, e10, e01, e50, e51, e20, e60, e70, e30, e40, Classical.not_not, not_true_eq_false, not_false_eq_true, ald_in (show 0 ≤ b.toInt ∧ b.toInt < ((8 : Nat) : Int) from hb)]
theorem x_refusal {σ : Sig} {n : Nat} {G : Gd} (hi : Iv G) {k b : Int32} (hk : 0 ≤ k.toInt ∧ k.toInt < (G 5 0).toInt) (hb : 0 ≤ b.toInt ∧ b.toInt < (G 3 0).toInt) : f4_reasonOfRefusal n k b (xg σ n G) = some (Rf G k.toInt.toNat b.toInt.toNat) := by
  have h0 := hi.1
  have hk5 : 0 ≤ k.toInt ∧ k.toInt < 50 := by omega
  have hb8 : 0 ≤ b.toInt ∧ b.toInt < 8 := by omega
  have h1 := hi.k (k := k.toInt.toNat) (by omega)
  have hp : 0 ≤ (G 27 k.toInt.toNat).toInt ∧ (G 27 k.toInt.toNat).toInt < (G 4 0).toInt := by omega
  have hp3 : 0 ≤ (G 27 k.toInt.toNat).toInt ∧ (G 27 k.toInt.toNat).toInt < 30 := by omega
  have h2 := hi.p (p := (G 27 k.toInt.toNat).toInt.toNat) (by omega)
  have h3 := hi.b (b := b.toInt.toNat) (by omega)
  have hw := Wt_in hi (p := (G 27 k.toInt.toNat).toInt.toNat) (by omega)
  have e9 : (G 9 b.toInt.toNat - G 14 b.toInt.toNat).toInt = (G 9 b.toInt.toNat).toInt - (G 14 b.toInt.toNat).toInt := tv_sub rfl rfl (by omega)
  unfold f4_reasonOfRefusal Rf
  simp only [nm_ap, bnd_ap, bns_ap, bnx_ap0, bnx_ap1, bnx_ap2, bnx_ap3, bnx_ap4, gz_0, gz_1, dvd_96, dvd_2, dvd_10000, rmd_96, rmd_8, xg_at, xg_0, mr_at, up_xg, up_mr, narz_0, narz_1, i10, i01, i11, i00, ↓reduceIte, e10, e01, e50, e51, e20, e60, e70, e30, e40, Classical.not_not, not_true_eq_false, not_false_eq_true, ald_in (show 0 ≤ k.toInt ∧ k.toInt < ((50 : Nat) : Int) from hk5), ald_in (show 0 ≤ b.toInt ∧ b.toInt < ((8 : Nat) : Int) from hb8), ald_in (show 0 ≤ (G 27 k.toInt.toNat).toInt ∧ (G 27 k.toInt.toNat).toInt < ((30 : Nat) : Int) from hp3), x_tick, x_isOpen, x_today, x_valid hi hp, x_hasScent hp3, x_wait hi hp, x_free hb8]
  generalize (G 15 (G 27 k.toInt.toNat).toInt.toNat >>> (G 8 b.toInt.toNat &&& 31)) &&& 1 = bit
  generalize Opn G (Tk G) = o
  by_cases ho : o = 0
  · simp only [ho, reduceIte]
  simp only [ho, reduceIte]
  by_cases hbit : bit = 0
  · simp only [hbit, reduceIte, Int32.lt_iff_toInt_lt, Int32.le_iff_toInt_le, ← Int32.toInt_inj, Int32.reduceToInt, Int.reduceEq, Int.reduceLT, Int.reduceLE, Int.reduceNeg, ↓reduceIte, not_true_eq_false, not_false_eq_true, e9]
    repeat' split
    all_goals first | rfl | (exfalso; omega)
  · simp only [hbit, reduceIte, Int32.lt_iff_toInt_lt, Int32.le_iff_toInt_le, ← Int32.toInt_inj, Int32.reduceToInt, Int.reduceEq, Int.reduceLT, Int.reduceLE, Int.reduceNeg, ↓reduceIte, not_true_eq_false, not_false_eq_true, e9]
    repeat' split
    all_goals first | rfl | (exfalso; omega)
/-! the class alone, out of the whole check's mathematics -/
theorem x_has0 {σ : Sig} {n : Nat} {G : Gd} {b : Int32} : f0_has n b (xg σ n G) = some (if 0 ≤ b.toInt ∧ b.toInt < (G 3 0).toInt then 1 else 0) := by
  unfold f0_has
  simp only [nm_ap, bnd_ap, bns_ap, bnx_ap0, bnx_ap1, bnx_ap2, bnx_ap3, bnx_ap4, gz_0, gz_1, dvd_96, dvd_2, dvd_10000, rmd_96, rmd_8, xg_at, xg_0, mr_at, up_xg, up_mr, narz_0, narz_1, i10, i01, i11, i00, ↓reduceIte, e10, e01, e50, e51, e20, e60, e70, e30, e40, Classical.not_not, not_true_eq_false, not_false_eq_true, Int32.lt_iff_toInt_lt, Int32.le_iff_toInt_le, ← Int32.toInt_inj, Int32.reduceToInt, Int.reduceEq, Int.reduceLT, Int.reduceLE, Int.reduceNeg, ↓reduceIte, not_true_eq_false, not_false_eq_true]
  repeat' split
  all_goals first | rfl | (exfalso; omega)
theorem x_has2 {σ : Sig} {n : Nat} {G : Gd} {b : Int32} : f2_has n b (xg σ n G) = some (if 0 ≤ b.toInt ∧ b.toInt < (G 5 0).toInt then 1 else 0) := by
  unfold f2_has
  simp only [nm_ap, bnd_ap, bns_ap, bnx_ap0, bnx_ap1, bnx_ap2, bnx_ap3, bnx_ap4, gz_0, gz_1, dvd_96, dvd_2, dvd_10000, rmd_96, rmd_8, xg_at, xg_0, mr_at, up_xg, up_mr, narz_0, narz_1, i10, i01, i11, i00, ↓reduceIte, e10, e01, e50, e51, e20, e60, e70, e30, e40, Classical.not_not, not_true_eq_false, not_false_eq_true, Int32.lt_iff_toInt_lt, Int32.le_iff_toInt_le, ← Int32.toInt_inj, Int32.reduceToInt, Int.reduceEq, Int.reduceLT, Int.reduceLE, Int.reduceNeg, ↓reduceIte, not_true_eq_false, not_false_eq_true]
  repeat' split
  all_goals first | rfl | (exfalso; omega)
theorem x_has7 {σ : Sig} {n : Nat} {G : Gd} {b : Int32} : f7_has n b (xg σ n G) = some (if 0 ≤ b.toInt ∧ b.toInt < (G 4 0).toInt then 1 else 0) := by
  unfold f7_has
  simp only [nm_ap, bnd_ap, bns_ap, bnx_ap0, bnx_ap1, bnx_ap2, bnx_ap3, bnx_ap4, gz_0, gz_1, dvd_96, dvd_2, dvd_10000, rmd_96, rmd_8, xg_at, xg_0, mr_at, up_xg, up_mr, narz_0, narz_1, i10, i01, i11, i00, ↓reduceIte, e10, e01, e50, e51, e20, e60, e70, e30, e40, Classical.not_not, not_true_eq_false, not_false_eq_true, Int32.lt_iff_toInt_lt, Int32.le_iff_toInt_le, ← Int32.toInt_inj, Int32.reduceToInt, Int.reduceEq, Int.reduceLT, Int.reduceLE, Int.reduceNeg, ↓reduceIte, not_true_eq_false, not_false_eq_true]
  repeat' split
  all_goals first | rfl | (exfalso; omega)
theorem x_has10 {σ : Sig} {n : Nat} {G : Gd} {b : Int32} : f10_has n b (xg σ n G) = some (if 0 ≤ b.toInt ∧ b.toInt < (G 2 0).toInt then 1 else 0) := by
  unfold f10_has
  simp only [nm_ap, bnd_ap, bns_ap, bnx_ap0, bnx_ap1, bnx_ap2, bnx_ap3, bnx_ap4, gz_0, gz_1, dvd_96, dvd_2, dvd_10000, rmd_96, rmd_8, xg_at, xg_0, mr_at, up_xg, up_mr, narz_0, narz_1, i10, i01, i11, i00, ↓reduceIte, e10, e01, e50, e51, e20, e60, e70, e30, e40, Classical.not_not, not_true_eq_false, not_false_eq_true, Int32.lt_iff_toInt_lt, Int32.le_iff_toInt_le, ← Int32.toInt_inj, Int32.reduceToInt, Int.reduceEq, Int.reduceLT, Int.reduceLE, Int.reduceNeg, ↓reduceIte, not_true_eq_false, not_false_eq_true]
  repeat' split
  all_goals first | rfl | (exfalso; omega)
theorem x_room0 {σ : Sig} {n : Nat} {G : Gd} : f0_hasRoom n (xg σ n G) = some (if (G 3 0).toInt < 8 then 1 else 0) := by
  unfold f0_hasRoom
  simp only [nm_ap, bnd_ap, bns_ap, bnx_ap0, bnx_ap1, bnx_ap2, bnx_ap3, bnx_ap4, gz_0, gz_1, dvd_96, dvd_2, dvd_10000, rmd_96, rmd_8, xg_at, xg_0, mr_at, up_xg, up_mr, narz_0, narz_1, i10, i01, i11, i00, ↓reduceIte, e10, e01, e50, e51, e20, e60, e70, e30, e40, Classical.not_not, not_true_eq_false, not_false_eq_true, Int32.lt_iff_toInt_lt, Int32.le_iff_toInt_le, ← Int32.toInt_inj, Int32.reduceToInt, Int.reduceEq, Int.reduceLT, Int.reduceLE, Int.reduceNeg, ↓reduceIte, not_true_eq_false, not_false_eq_true]
  repeat' split
  all_goals first | rfl | (exfalso; omega)
theorem x_room10 {σ : Sig} {n : Nat} {G : Gd} : f10_hasRoom n (xg σ n G) = some (if (G 2 0).toInt < 5 then 1 else 0) := by
  unfold f10_hasRoom
  simp only [nm_ap, bnd_ap, bns_ap, bnx_ap0, bnx_ap1, bnx_ap2, bnx_ap3, bnx_ap4, gz_0, gz_1, dvd_96, dvd_2, dvd_10000, rmd_96, rmd_8, xg_at, xg_0, mr_at, up_xg, up_mr, narz_0, narz_1, i10, i01, i11, i00, ↓reduceIte, e10, e01, e50, e51, e20, e60, e70, e30, e40, Classical.not_not, not_true_eq_false, not_false_eq_true, Int32.lt_iff_toInt_lt, Int32.le_iff_toInt_le, ← Int32.toInt_inj, Int32.reduceToInt, Int.reduceEq, Int.reduceLT, Int.reduceLE, Int.reduceNeg, ↓reduceIte, not_true_eq_false, not_false_eq_true]
  repeat' split
  all_goals first | rfl | (exfalso; omega)
theorem x_canSell {σ : Sig} {n : Nat} {G : Gd} : f4_canSellPass n (xg σ n G) = some (if (G 4 0).toInt < 30 ∧ (G 5 0).toInt < 50 then 1 else 0) := by
  have a : f7_hasRoom n (xg σ n G) = some (if (G 4 0).toInt < 30 then 1 else 0) := by
    unfold f7_hasRoom
    simp only [nm_ap, bnd_ap, bns_ap, bnx_ap0, bnx_ap1, bnx_ap2, bnx_ap3, bnx_ap4, gz_0, gz_1, dvd_96, dvd_2, dvd_10000, rmd_96, rmd_8, xg_at, xg_0, mr_at, up_xg, up_mr, narz_0, narz_1, i10, i01, i11, i00, ↓reduceIte, e10, e01, e50, e51, e20, e60, e70, e30, e40, Classical.not_not, not_true_eq_false, not_false_eq_true, Int32.lt_iff_toInt_lt, Int32.le_iff_toInt_le, ← Int32.toInt_inj, Int32.reduceToInt, Int.reduceEq, Int.reduceLT, Int.reduceLE, Int.reduceNeg, ↓reduceIte, not_true_eq_false, not_false_eq_true]
    repeat' split
    all_goals first | rfl | (exfalso; omega)
  have b : f2_hasRoom n (xg σ n G) = some (if (G 5 0).toInt < 50 then 1 else 0) := by
    unfold f2_hasRoom
    simp only [nm_ap, bnd_ap, bns_ap, bnx_ap0, bnx_ap1, bnx_ap2, bnx_ap3, bnx_ap4, gz_0, gz_1, dvd_96, dvd_2, dvd_10000, rmd_96, rmd_8, xg_at, xg_0, mr_at, up_xg, up_mr, narz_0, narz_1, i10, i01, i11, i00, ↓reduceIte, e10, e01, e50, e51, e20, e60, e70, e30, e40, Classical.not_not, not_true_eq_false, not_false_eq_true, Int32.lt_iff_toInt_lt, Int32.le_iff_toInt_le, ← Int32.toInt_inj, Int32.reduceToInt, Int.reduceEq, Int.reduceLT, Int.reduceLE, Int.reduceNeg, ↓reduceIte, not_true_eq_false, not_false_eq_true]
    repeat' split
    all_goals first | rfl | (exfalso; omega)
  unfold f4_canSellPass
  simp only [nm_ap, bnd_ap, bns_ap, bnx_ap0, bnx_ap1, bnx_ap2, bnx_ap3, bnx_ap4, gz_0, gz_1, dvd_96, dvd_2, dvd_10000, rmd_96, rmd_8, xg_at, xg_0, mr_at, up_xg, up_mr, narz_0, narz_1, i10, i01, i11, i00, ↓reduceIte, e10, e01, e50, e51, e20, e60, e70, e30, e40, Classical.not_not, not_true_eq_false, not_false_eq_true, a, b]
  repeat' split
  all_goals first | rfl | (exfalso; omega)
def SA (G : Gd) : Int32 := (1 : Int32) <<< (G 2 0 &&& 31) - 1
theorem x_all {σ : Sig} {n : Nat} {G : Gd} : f10_setOfAllScents n (xg σ n G) = some (SA G) := by
  unfold f10_setOfAllScents
  simp only [nm_ap, bnd_ap, bns_ap, bnx_ap0, bnx_ap1, bnx_ap2, bnx_ap3, bnx_ap4, gz_0, gz_1, dvd_96, dvd_2, dvd_10000, rmd_96, rmd_8, xg_at, xg_0, mr_at, up_xg, up_mr, narz_0, narz_1, i10, i01, i11, i00, ↓reduceIte, e10, e01, e50, e51, e20, e60, e70, e30, e40, Classical.not_not, not_true_eq_false, not_false_eq_true]
  rfl
theorem x_canGo {σ : Sig} {n : Nat} {G : Gd} (hi : Iv G) {t : Int32} (ht : 0 ≤ t.toInt ∧ t.toInt ≤ 9999) : f3_canGoOn n t (xg σ n G) = some (if (G 1 0).toInt + t.toInt ≤ 9599 then 1 else 0) := by
  have h0 := hi.1
  have e : (G 1 0 + t).toInt = (G 1 0).toInt + t.toInt := tv_add rfl rfl (by omega)
  unfold f3_canGoOn
  simp only [nm_ap, bnd_ap, bns_ap, bnx_ap0, bnx_ap1, bnx_ap2, bnx_ap3, bnx_ap4, gz_0, gz_1, dvd_96, dvd_2, dvd_10000, rmd_96, rmd_8, xg_at, xg_0, mr_at, up_xg, up_mr, narz_0, narz_1, i10, i01, i11, i00, ↓reduceIte, e10, e01, e50, e51, e20, e60, e70, e30, e40, Classical.not_not, not_true_eq_false, not_false_eq_true, Int32.lt_iff_toInt_lt, Int32.le_iff_toInt_le, ← Int32.toInt_inj, Int32.reduceToInt, Int.reduceEq, Int.reduceLT, Int.reduceLE, Int.reduceNeg, ↓reduceIte, not_true_eq_false, not_false_eq_true, e]
  repeat' split
  all_goals first | rfl | (exfalso; omega)
theorem x_hasCard {σ : Sig} {n : Nat} {G : Gd} {p : Int32} (hp : 0 ≤ p.toInt ∧ p.toInt < 30) : f7_hasCard n p (xg σ n G) = some (if (G 20 p.toInt.toNat).toInt = -1 then 0 else 1) := by
  unfold f7_hasCard
  simp only [nm_ap, bnd_ap, bns_ap, bnx_ap0, bnx_ap1, bnx_ap2, bnx_ap3, bnx_ap4, gz_0, gz_1, dvd_96, dvd_2, dvd_10000, rmd_96, rmd_8, xg_at, xg_0, mr_at, up_xg, up_mr, narz_0, narz_1, i10, i01, i11, i00, ↓reduceIte, e10, e01, e50, e51, e20, e60, e70, e30, e40, Classical.not_not, not_true_eq_false, not_false_eq_true, ald_in (show 0 ≤ p.toInt ∧ p.toInt < ((30 : Nat) : Int) from hp), Int32.lt_iff_toInt_lt, Int32.le_iff_toInt_le, ← Int32.toInt_inj, Int32.reduceToInt, Int.reduceEq, Int.reduceLT, Int.reduceLE, Int.reduceNeg, ↓reduceIte, not_true_eq_false, not_false_eq_true]
  repeat' split
  all_goals first | rfl | (exfalso; omega)
abbrev CrP (G : Gd) (p : Nat) : Prop := (G 20 p).toInt = -1 ∧ (G 21 p).toInt = 0 ∧ (G 5 0).toInt < 50
theorem x_canReplace {σ : Sig} {n : Nat} {G : Gd} {p : Int32} (hp : 0 ≤ p.toInt ∧ p.toInt < 30) : f4_canReplaceCard n p (xg σ n G) = some (if CrP G p.toInt.toNat then 1 else 0) := by
  have b : f2_hasRoom n (xg σ n G) = some (if (G 5 0).toInt < 50 then 1 else 0) := by
    unfold f2_hasRoom
    simp only [nm_ap, bnd_ap, bns_ap, bnx_ap0, bnx_ap1, bnx_ap2, bnx_ap3, bnx_ap4, gz_0, gz_1, dvd_96, dvd_2, dvd_10000, rmd_96, rmd_8, xg_at, xg_0, mr_at, up_xg, up_mr, narz_0, narz_1, i10, i01, i11, i00, ↓reduceIte, e10, e01, e50, e51, e20, e60, e70, e30, e40, Classical.not_not, not_true_eq_false, not_false_eq_true, Int32.lt_iff_toInt_lt, Int32.le_iff_toInt_le, ← Int32.toInt_inj, Int32.reduceToInt, Int.reduceEq, Int.reduceLT, Int.reduceLE, Int.reduceNeg, ↓reduceIte, not_true_eq_false, not_false_eq_true]
    repeat' split
    all_goals first | rfl | (exfalso; omega)
  unfold f4_canReplaceCard
  simp only [nm_ap, bnd_ap, bns_ap, bnx_ap0, bnx_ap1, bnx_ap2, bnx_ap3, bnx_ap4, gz_0, gz_1, dvd_96, dvd_2, dvd_10000, rmd_96, rmd_8, xg_at, xg_0, mr_at, up_xg, up_mr, narz_0, narz_1, i10, i01, i11, i00, ↓reduceIte, e10, e01, e50, e51, e20, e60, e70, e30, e40, Classical.not_not, not_true_eq_false, not_false_eq_true, ald_in (show 0 ≤ p.toInt ∧ p.toInt < ((30 : Nat) : Int) from hp), x_hasCard hp, b]
  simp only [Int32.lt_iff_toInt_lt, Int32.le_iff_toInt_le, ← Int32.toInt_inj, Int32.reduceToInt, Int.reduceEq, Int.reduceLT, Int.reduceLE, Int.reduceNeg, ↓reduceIte, not_true_eq_false, not_false_eq_true]
  repeat' split
  all_goals first | rfl | (exfalso; omega)
abbrev CcP (G : Gd) (p : Nat) : Prop := (G 21 p).toInt = 0 ∧ (Td G).toInt ≤ (G 16 p).toInt + (G 17 p).toInt - 1
theorem x_final {σ : Sig} {n : Nat} {G : Gd} {p : Int32} (hp : 0 ≤ p.toInt ∧ p.toInt < 30) : f7_finalDay n p (xg σ n G) = some (G 16 p.toInt.toNat + G 17 p.toInt.toNat - 1) := by
  unfold f7_finalDay
  simp only [nm_ap, bnd_ap, bns_ap, bnx_ap0, bnx_ap1, bnx_ap2, bnx_ap3, bnx_ap4, gz_0, gz_1, dvd_96, dvd_2, dvd_10000, rmd_96, rmd_8, xg_at, xg_0, mr_at, up_xg, up_mr, narz_0, narz_1, i10, i01, i11, i00, ↓reduceIte, e10, e01, e50, e51, e20, e60, e70, e30, e40, Classical.not_not, not_true_eq_false, not_false_eq_true, ald_in (show 0 ≤ p.toInt ∧ p.toInt < ((30 : Nat) : Int) from hp)]
theorem fin_in {G : Gd} (hi : Iv G) {p : Nat} (hp : (p : Int) < (G 4 0).toInt) : (G 16 p + G 17 p - 1).toInt = (G 16 p).toInt + (G 17 p).toInt - 1 := by
  have h1 := hi.p hp
  have e1 : (G 16 p + G 17 p).toInt = (G 16 p).toInt + (G 17 p).toInt := tv_add rfl rfl (by omega)
  exact tv_sub e1 rfl (by omega)
theorem x_canChange {σ : Sig} {n : Nat} {G : Gd} (hi : Iv G) {p : Int32} (hp : 0 ≤ p.toInt ∧ p.toInt < (G 4 0).toInt) : f4_canChangePass n p (xg σ n G) = some (if CcP G p.toInt.toNat then 1 else 0) := by
  have h0 := hi.1
  have hp3 : 0 ≤ p.toInt ∧ p.toInt < 30 := by omega
  have e := fin_in hi (p := p.toInt.toNat) (by omega)
  unfold f4_canChangePass
  simp only [nm_ap, bnd_ap, bns_ap, bnx_ap0, bnx_ap1, bnx_ap2, bnx_ap3, bnx_ap4, gz_0, gz_1, dvd_96, dvd_2, dvd_10000, rmd_96, rmd_8, xg_at, xg_0, mr_at, up_xg, up_mr, narz_0, narz_1, i10, i01, i11, i00, ↓reduceIte, e10, e01, e50, e51, e20, e60, e70, e30, e40, Classical.not_not, not_true_eq_false, not_false_eq_true, ald_in (show 0 ≤ p.toInt ∧ p.toInt < ((30 : Nat) : Int) from hp3), x_final hp3, x_today, Int32.lt_iff_toInt_lt, Int32.le_iff_toInt_le, ← Int32.toInt_inj, Int32.reduceToInt, Int.reduceEq, Int.reduceLT, Int.reduceLE, Int.reduceNeg, ↓reduceIte, not_true_eq_false, not_false_eq_true, e]
  repeat' split
  all_goals first | rfl | (exfalso; omega)
abbrev CpP (G : Gd) (k : Nat) (bl : Int32) : Prop := (G 28 k).toInt = 0 ∧ (G 24 (G 27 k).toInt.toNat).toInt = (G 1 0).toInt ∧ bl.toInt ≤ (G 12 (G 25 (G 27 k).toInt.toNat).toInt.toNat).toInt
theorem x_canPluck {σ : Sig} {n : Nat} {G : Gd} (hi : Iv G) {k bl : Int32} (hk : 0 ≤ k.toInt ∧ k.toInt < (G 5 0).toInt) : f4_canPluck n k bl (xg σ n G) = some (if CpP G k.toInt.toNat bl then 1 else 0) := by
  have h0 := hi.1
  have hk5 : 0 ≤ k.toInt ∧ k.toInt < 50 := by omega
  have h1 := hi.k (k := k.toInt.toNat) (by omega)
  have hp3 : 0 ≤ (G 27 k.toInt.toNat).toInt ∧ (G 27 k.toInt.toNat).toInt < 30 := by omega
  have h2 := hi.p (p := (G 27 k.toInt.toNat).toInt.toNat) (by omega)
  unfold f4_canPluck
  simp only [nm_ap, bnd_ap, bns_ap, bnx_ap0, bnx_ap1, bnx_ap2, bnx_ap3, bnx_ap4, gz_0, gz_1, dvd_96, dvd_2, dvd_10000, rmd_96, rmd_8, xg_at, xg_0, mr_at, up_xg, up_mr, narz_0, narz_1, i10, i01, i11, i00, ↓reduceIte, e10, e01, e50, e51, e20, e60, e70, e30, e40, Classical.not_not, not_true_eq_false, not_false_eq_true, ald_in (show 0 ≤ k.toInt ∧ k.toInt < ((50 : Nat) : Int) from hk5), ald_in (show 0 ≤ (G 27 k.toInt.toNat).toInt ∧ (G 27 k.toInt.toNat).toInt < ((30 : Nat) : Int) from hp3), x_has0]
  by_cases hl : (G 24 (G 27 k.toInt.toNat).toInt.toNat).toInt = (G 1 0).toInt
  · have hb : 0 ≤ (G 25 (G 27 k.toInt.toNat).toInt.toNat).toInt ∧ (G 25 (G 27 k.toInt.toNat).toInt.toNat).toInt < (G 3 0).toInt := by omega
    have hb8 : 0 ≤ (G 25 (G 27 k.toInt.toNat).toInt.toNat).toInt ∧ (G 25 (G 27 k.toInt.toNat).toInt.toNat).toInt < ((8 : Nat) : Int) := by omega
    have hl2 : G 24 (G 27 k.toInt.toNat).toInt.toNat = G 1 0 := ti_ext hl
    simp only [ald_in hb8, hb, hl2, and_self, reduceIte, e10]
    simp only [Int32.lt_iff_toInt_lt, Int32.le_iff_toInt_le, ← Int32.toInt_inj, Int32.reduceToInt, Int.reduceEq, Int.reduceLT, Int.reduceLE, Int.reduceNeg, ↓reduceIte, not_true_eq_false, not_false_eq_true, true_and, reduceIte]
    by_cases h28 : (G 28 k.toInt.toNat).toInt = 0
    · simp only [h28, reduceIte, true_and]
      repeat' split
      all_goals first | rfl | (exfalso; omega)
    · simp only [h28, reduceIte, false_and]
      rw [if_neg (fun z : CpP G k.toInt.toNat bl => h28 z.1)]
  · simp only [Int32.lt_iff_toInt_lt, Int32.le_iff_toInt_le, ← Int32.toInt_inj, Int32.reduceToInt, Int.reduceEq, Int.reduceLT, Int.reduceLE, Int.reduceNeg, ↓reduceIte, not_true_eq_false, not_false_eq_true, hl, reduceIte, false_and, and_false]
    repeat' split
    all_goals first | rfl | (exfalso; omega)
theorem x_used {σ : Sig} {n : Nat} {G : Gd} {p : Int32} (hp : 0 ≤ p.toInt ∧ p.toInt < 30) : f7_countUsedDays n p (xg σ n G) = some (bitc (G 22 p.toInt.toNat)) := by
  unfold f7_countUsedDays
  simp only [nm_ap, bnd_ap, bns_ap, bnx_ap0, bnx_ap1, bnx_ap2, bnx_ap3, bnx_ap4, gz_0, gz_1, dvd_96, dvd_2, dvd_10000, rmd_96, rmd_8, xg_at, xg_0, mr_at, up_xg, up_mr, narz_0, narz_1, i10, i01, i11, i00, ↓reduceIte, e10, e01, e50, e51, e20, e60, e70, e30, e40, Classical.not_not, not_true_eq_false, not_false_eq_true, ald_in (show 0 ≤ p.toInt ∧ p.toInt < ((30 : Nat) : Int) from hp)]
def bN (n : Nat) : Nat :=
  let a := n - ((n >>> 1) &&& 1431655765)
  let b := (a &&& 858993459) + ((a >>> 2) &&& 858993459)
  let d := (b + (b >>> 4)) &&& 252645135
  let e := d + (d >>> 8)
  let f := e + (e >>> 16)
  f &&& 63
theorem bN_dec : ∀ a : Fin 128, ∀ b : Fin 128, (a.1 * 128 + b.1 = 0 ∨ bN (a.1 * 128 + b.1) = bN ((a.1 * 128 + b.1) &&& (a.1 * 128 + b.1 - 1)) + 1) ∧ bN (a.1 * 128 + b.1) ≤ 14 ∧ (bN (a.1 * 128 + b.1) = 0 ↔ a.1 * 128 + b.1 = 0) := by decide +kernel
theorem bN_at {n : Nat} (h : n < 16384) : (n = 0 ∨ bN n = bN (n &&& (n - 1)) + 1) ∧ bN n ≤ 14 ∧ (bN n = 0 ↔ n = 0) := by
  have q := bN_dec ⟨n / 128, by omega⟩ ⟨n % 128, by omega⟩
  have e : n / 128 * 128 + n % 128 = n := by omega
  simp only [e] at q
  exact q
theorem and_nat (n m : Nat) : Int32.ofNat n &&& Int32.ofNat m = Int32.ofNat (n &&& m) := by
  rw [← UInt32.toInt32_ofNat', ← UInt32.toInt32_ofNat', ← UInt32.toInt32_ofNat', UInt32.ofNat_and, UInt32.toInt32_and]
theorem shr_nat {n : Nat} (h : n < 4294967296) (c : UInt32) : ((Int32.ofNat n).toUInt32 >>> c).toInt32 = Int32.ofNat (n >>> (c.toNat % 32)) := by
  have h1 : n >>> (c.toNat % 32) ≤ n := Nat.shiftRight_le _ _
  have e : UInt32.ofNat n >>> c = UInt32.ofNat (n >>> (c.toNat % 32)) := by
    apply UInt32.toNat_inj.mp
    rw [UInt32.toNat_shiftRight, UInt32.toNat_ofNat_of_lt' (by omega), UInt32.toNat_ofNat_of_lt' (Nat.lt_of_le_of_lt h1 (by omega))]
  show (UInt32.ofNat n >>> c).toInt32 = (UInt32.ofNat (n >>> (c.toNat % 32))).toInt32
  rw [e]
def g1 (x : Int32) : Int32 := x - ((x.toUInt32 >>> ((1 : Int32).toUInt32 &&& Int32.toUInt32 31)).toInt32 &&& (1431655765 : Int32))
def g2 (a : Int32) : Int32 := (a &&& (858993459 : Int32)) + ((a.toUInt32 >>> ((2 : Int32).toUInt32 &&& Int32.toUInt32 31)).toInt32 &&& (858993459 : Int32))
def g3 (b : Int32) : Int32 := (b + (b.toUInt32 >>> ((4 : Int32).toUInt32 &&& Int32.toUInt32 31)).toInt32) &&& (252645135 : Int32)
def g4 (d : Int32) : Int32 := d + (d.toUInt32 >>> ((8 : Int32).toUInt32 &&& Int32.toUInt32 31)).toInt32
def g5 (d : Int32) : Int32 := d + (d.toUInt32 >>> ((16 : Int32).toUInt32 &&& Int32.toUInt32 31)).toInt32
theorem bitc_g (x : Int32) : bitc x = g5 (g4 (g3 (g2 (g1 x)))) &&& (63 : Int32) := rfl
theorem g1_nat {n : Nat} (h : n < 16384) : g1 (Int32.ofNat n) = Int32.ofNat (n - ((n >>> 1) &&& 1431655765)) := by
  have a0 : (n >>> 1) &&& 1431655765 ≤ n := Nat.le_trans Nat.and_le_left (Nat.shiftRight_le _ _)
  unfold g1
  rw [shr_nat (by omega), show (((1 : Int32).toUInt32 &&& Int32.toUInt32 31).toNat % 32) = 1 from rfl, show (1431655765 : Int32) = Int32.ofNat 1431655765 from rfl, and_nat, ← Int32.ofNat_sub _ _ a0]
theorem g2_nat {a : Nat} (h : a < 16384) : g2 (Int32.ofNat a) = Int32.ofNat ((a &&& 858993459) + ((a >>> 2) &&& 858993459)) := by
  unfold g2
  rw [shr_nat (by omega), show (((2 : Int32).toUInt32 &&& Int32.toUInt32 31).toNat % 32) = 2 from rfl, show (858993459 : Int32) = Int32.ofNat 858993459 from rfl, and_nat, and_nat, ← Int32.ofNat_add]
theorem g3_nat {a : Nat} (h : a < 32768) : g3 (Int32.ofNat a) = Int32.ofNat ((a + (a >>> 4)) &&& 252645135) := by
  unfold g3
  rw [shr_nat (by omega), show (((4 : Int32).toUInt32 &&& Int32.toUInt32 31).toNat % 32) = 4 from rfl, show (252645135 : Int32) = Int32.ofNat 252645135 from rfl, ← Int32.ofNat_add, and_nat]
theorem g4_nat {a : Nat} (h : a < 65536) : g4 (Int32.ofNat a) = Int32.ofNat (a + (a >>> 8)) := by
  unfold g4
  rw [shr_nat (by omega), show (((8 : Int32).toUInt32 &&& Int32.toUInt32 31).toNat % 32) = 8 from rfl, ← Int32.ofNat_add]
theorem g5_nat {a : Nat} (h : a < 131072) : g5 (Int32.ofNat a) = Int32.ofNat (a + (a >>> 16)) := by
  unfold g5
  rw [shr_nat (by omega), show (((16 : Int32).toUInt32 &&& Int32.toUInt32 31).toNat % 32) = 16 from rfl, ← Int32.ofNat_add]
theorem bitc_nat {n : Nat} (h : n < 16384) : bitc (Int32.ofNat n) = Int32.ofNat (bN n) := by
  rw [bitc_g, g1_nat h]
  unfold bN
  dsimp only
  have ha : n - ((n >>> 1) &&& 1431655765) < 16384 := by omega
  generalize n - ((n >>> 1) &&& 1431655765) = a at ha ⊢
  have hb1 : a &&& 858993459 ≤ a := Nat.and_le_left
  have hb2 : (a >>> 2) &&& 858993459 ≤ a := Nat.le_trans Nat.and_le_left (Nat.shiftRight_le _ _)
  rw [g2_nat ha]
  have hb : (a &&& 858993459) + ((a >>> 2) &&& 858993459) < 32768 := by omega
  generalize (a &&& 858993459) + ((a >>> 2) &&& 858993459) = b at hb ⊢
  have hd1 : b >>> 4 ≤ b := Nat.shiftRight_le _ _
  have hd2 : (b + (b >>> 4)) &&& 252645135 ≤ b + (b >>> 4) := Nat.and_le_left
  rw [g3_nat hb]
  have hd : (b + (b >>> 4)) &&& 252645135 < 65536 := by omega
  generalize (b + (b >>> 4)) &&& 252645135 = d at hd ⊢
  have he1 : d >>> 8 ≤ d := Nat.shiftRight_le _ _
  rw [g4_nat hd]
  have he : d + (d >>> 8) < 131072 := by omega
  generalize d + (d >>> 8) = e at he ⊢
  rw [g5_nat he, show (63 : Int32) = Int32.ofNat 63 from rfl, and_nat]
theorem bitc_in {x : Int32} (h : 0 ≤ x.toInt ∧ x.toInt < 16384) : 0 ≤ (bitc x).toInt ∧ (bitc x).toInt ≤ 14 ∧ ((bitc x).toInt = 0 ↔ x.toInt = 0) := by
  have e : Int32.ofNat x.toInt.toNat = x := by
    apply ti_ext
    rw [oN _ (by omega)]
    omega
  have q := bitc_nat (n := x.toInt.toNat) (by omega)
  have b := bN_at (n := x.toInt.toNat) (by omega)
  rw [e] at q
  rw [q, oN _ (by omega)]
  omega
/-! the class alone, out of the whole check's mathematics -/
def Gpay (G : Gd) (p : Nat) (a : Int32) : Gd := p2 (p2 (p2 G 26 p (G 26 p - a)) 6 3 (G 6 3 + a)) 6 0 (G 6 0 + a)
theorem x_pay {σ : Sig} {n : Nat} {G : Gd} {p a : Int32} (hp : 0 ≤ p.toInt ∧ p.toInt < 30) : f4_payFinesOf n p a (xg σ n G) = some (xg σ n (Gpay G p.toInt.toNat a)) := by
  have hp' : 0 ≤ p.toInt ∧ p.toInt < ((30 : Nat) : Int) := hp
  unfold f4_payFinesOf Gpay
  simp only [nm_ap, bnd_ap, bns_ap, bnx_ap0, bnx_ap1, bnx_ap2, bnx_ap3, bnx_ap4, gz_0, gz_1, dvd_96, dvd_2, dvd_10000, rmd_96, rmd_8, xg_at, xg_0, mr_at, up_xg, up_mr, narz_0, narz_1, i10, i01, i11, i00, ↓reduceIte, e10, e01, e50, e51, e20, e60, e70, e30, e40, Classical.not_not, not_true_eq_false, not_false_eq_true, ald_in hp', ast_in hp']
  simp (disch := omega) only [upd_at, upd_ne, p2_at, p2_ne]
def Gbk (G : Gd) (p : Nat) (r a : Int32) : Gd := Gpay (p2 G 6 1 (G 6 1 + r)) p a
def Glos (G : Gd) (p : Nat) : Gd := p2 (p2 G 28 (G 20 p).toInt.toNat 1) 20 p (-1)
theorem x_block {σ : Sig} {n : Nat} {G : Gd} {p : Int32} (hp : 0 ≤ p.toInt ∧ p.toInt < 30) (hc : 0 ≤ (G 20 p.toInt.toNat).toInt ∧ (G 20 p.toInt.toNat).toInt < (G 5 0).toInt) (hk : (G 5 0).toInt ≤ 50) : f4_blockCardOf n p (xg σ n G) = some (G 20 p.toInt.toNat, xg σ n (Glos G p.toInt.toNat)) := by
  have hp' : 0 ≤ p.toInt ∧ p.toInt < ((30 : Nat) : Int) := hp
  have hc' : 0 ≤ (G 20 p.toInt.toNat).toInt ∧ (G 20 p.toInt.toNat).toInt < ((50 : Nat) : Int) := by omega
  unfold f4_blockCardOf f4_blockCardOf_b31 Glos
  simp only [nm_ap, bnd_ap, bns_ap, bnx_ap0, bnx_ap1, bnx_ap2, bnx_ap3, bnx_ap4, gz_0, gz_1, dvd_96, dvd_2, dvd_10000, rmd_96, rmd_8, xg_at, xg_0, mr_at, up_xg, up_mr, narz_0, narz_1, i10, i01, i11, i00, ↓reduceIte, e10, e01, e50, e51, e20, e60, e70, e30, e40, Classical.not_not, not_true_eq_false, not_false_eq_true, ald_in hp', x_has2, hc, and_self, ast_in hc', ast_in hp']
theorem x_block0 {σ : Sig} {n : Nat} {G : Gd} {p : Int32} (hp : 0 ≤ p.toInt ∧ p.toInt < 30) (hc : (G 20 p.toInt.toNat).toInt = -1) : f4_blockCardOf n p (xg σ n G) = some (G 20 p.toInt.toNat, xg σ n G) := by
  have hp' : 0 ≤ p.toInt ∧ p.toInt < ((30 : Nat) : Int) := hp
  have hv : (-1 : Int32) = G 20 p.toInt.toNat := ti_ext (by rw [hc]; rfl)
  have hn : ¬ (0 ≤ (G 20 p.toInt.toNat).toInt ∧ (G 20 p.toInt.toNat).toInt < (G 5 0).toInt) := by omega
  unfold f4_blockCardOf f4_blockCardOf_b31
  simp only [nm_ap, bnd_ap, bns_ap, bnx_ap0, bnx_ap1, bnx_ap2, bnx_ap3, bnx_ap4, gz_0, gz_1, dvd_96, dvd_2, dvd_10000, rmd_96, rmd_8, xg_at, xg_0, mr_at, up_xg, up_mr, narz_0, narz_1, i10, i01, i11, i00, ↓reduceIte, e10, e01, e50, e51, e20, e60, e70, e30, e40, Classical.not_not, not_true_eq_false, not_false_eq_true, ald_in hp', x_has2, hn, ast_in hp', hv, p2_self]
theorem x_ret {σ : Sig} {n : Nat} {G : Gd} {p : Int32} (hp : 0 ≤ p.toInt ∧ p.toInt < 30) : ∀ f : Sig → Option (Int32 × Sig), ast (xg σ n G) (n + 1) 21 30 p (vp_nar .boolean 1) f = f (xg σ n (p2 G 21 p.toInt.toNat 1)) := by
  intro f
  rw [ast_in hp, narz_1, up_xg]
def Gvis (G : Gd) (p b : Nat) (bi : Int32) : Gd := p2 (p2 (p2 (p2 (p2 (p2 G 13 b (G 13 b + 1)) 14 b (G 14 b + 1)) 22 p (G 22 p ||| (1 : Int32) <<< ((Td G - G 16 p) &&& 31))) 23 p (G 23 p + 1)) 24 p (G 1 0)) 25 p bi
def Gsho (G : Gd) (k b : Nat) (bi : Int32) : Gd := if Rf G k b = 2 then p2 G 6 5 (G 6 5 + 1) else if Rf G k b = 0 then Gvis G (G 27 k).toInt.toNat b bi else G
theorem x_show {σ : Sig} {n : Nat} {G : Gd} (hi : Iv G) {k b : Int32} (hk : 0 ≤ k.toInt ∧ k.toInt < (G 5 0).toInt) (hb : 0 ≤ b.toInt ∧ b.toInt < (G 3 0).toInt) : f4_showCard n k b (xg σ n G) = some (Rf G k.toInt.toNat b.toInt.toNat, xg σ n (Gsho G k.toInt.toNat b.toInt.toNat b)) := by
  have h0 := hi.1
  have hk5 : 0 ≤ k.toInt ∧ k.toInt < ((50 : Nat) : Int) := by omega
  have hb8 : 0 ≤ b.toInt ∧ b.toInt < ((8 : Nat) : Int) := by omega
  have h1 := hi.k (k := k.toInt.toNat) (by omega)
  have hp3 : 0 ≤ (G 27 k.toInt.toNat).toInt ∧ (G 27 k.toInt.toNat).toInt < ((30 : Nat) : Int) := by omega
  unfold f4_showCard f4_showCard_b25 Gsho
  simp only [nm_ap, bnd_ap, bns_ap, bnx_ap0, bnx_ap1, bnx_ap2, bnx_ap3, bnx_ap4, gz_0, gz_1, dvd_96, dvd_2, dvd_10000, rmd_96, rmd_8, xg_at, xg_0, mr_at, up_xg, up_mr, narz_0, narz_1, i10, i01, i11, i00, ↓reduceIte, e10, e01, e50, e51, e20, e60, e70, e30, e40, Classical.not_not, not_true_eq_false, not_false_eq_true, x_refusal hi hk hb]
  by_cases h2 : Rf G k.toInt.toNat b.toInt.toNat = 2
  · simp only [h2, reduceIte, e20, if_false]
  · simp only [h2, if_false]
    by_cases h3 : Rf G k.toInt.toNat b.toInt.toNat = 0
    · unfold f0_countVisit f7_countVisit Gvis
      have ht : ∀ (σ : Sig) (G' : Gd), G' 1 0 = G 1 0 → f3_today n (xg σ n G') = some (Td G) := fun σ G' e => by rw [x_today]; unfold Td; rw [e]
      simp only [h3, reduceIte]
      simp only [nm_ap, bnd_ap, bns_ap, bnx_ap0, bnx_ap1, bnx_ap2, bnx_ap3, bnx_ap4, gz_0, gz_1, dvd_96, dvd_2, dvd_10000, rmd_96, rmd_8, xg_at, xg_0, mr_at, up_xg, up_mr, narz_0, narz_1, i10, i01, i11, i00, ↓reduceIte, e10, e01, e50, e51, e20, e60, e70, e30, e40, Classical.not_not, not_true_eq_false, not_false_eq_true, ald_in hb8, ast_in hb8, p2_if, Nat.reduceEqDiff, ↓reduceIte, ald_in hk5]
      rw [ht _ _ (by simp only [p2_if, Nat.reduceEqDiff, ↓reduceIte])]
      simp only [nm_ap, bnd_ap, bns_ap, bnx_ap0, bnx_ap1, bnx_ap2, bnx_ap3, bnx_ap4, gz_0, gz_1, dvd_96, dvd_2, dvd_10000, rmd_96, rmd_8, xg_at, xg_0, mr_at, up_xg, up_mr, narz_0, narz_1, i10, i01, i11, i00, ↓reduceIte, e10, e01, e50, e51, e20, e60, e70, e30, e40, Classical.not_not, not_true_eq_false, not_false_eq_true, ald_in hp3, ast_in hp3, p2_if, Nat.reduceEqDiff, ↓reduceIte]
    · simp only [h3, if_false]
def Gplk (G : Gd) (p b : Nat) (f bl : Int32) : Gd := p2 (p2 (p2 (p2 G 12 b (G 12 b - bl)) 26 p (G 26 p + f)) 6 2 (G 6 2 + f)) 6 4 (G 6 4 + bl)
theorem x_pluck {σ : Sig} {n : Nat} {G : Gd} (hi : Iv G) {k bl : Int32} (hk : 0 ≤ k.toInt ∧ k.toInt < (G 5 0).toInt) (hc : CpP G k.toInt.toNat bl) : f4_pluckBlooms n k bl (xg σ n G) = some (Fn G (G 25 (G 27 k.toInt.toNat).toInt.toNat).toInt.toNat bl, xg σ n (Gplk G (G 27 k.toInt.toNat).toInt.toNat (G 25 (G 27 k.toInt.toNat).toInt.toNat).toInt.toNat (Fn G (G 25 (G 27 k.toInt.toNat).toInt.toNat).toInt.toNat bl) bl)) := by
  have h0 := hi.1
  have hk5 : 0 ≤ k.toInt ∧ k.toInt < ((50 : Nat) : Int) := by omega
  have h1 := hi.k (k := k.toInt.toNat) (by omega)
  have hp3 : 0 ≤ (G 27 k.toInt.toNat).toInt ∧ (G 27 k.toInt.toNat).toInt < ((30 : Nat) : Int) := by omega
  have h2 := hi.p (p := (G 27 k.toInt.toNat).toInt.toNat) (by omega)
  have hc2 := hc.2.1
  have hb8 : 0 ≤ (G 25 (G 27 k.toInt.toNat).toInt.toNat).toInt ∧ (G 25 (G 27 k.toInt.toNat).toInt.toNat).toInt < ((8 : Nat) : Int) := by omega
  unfold f4_pluckBlooms Gplk
  simp only [nm_ap, bnd_ap, bns_ap, bnx_ap0, bnx_ap1, bnx_ap2, bnx_ap3, bnx_ap4, gz_0, gz_1, dvd_96, dvd_2, dvd_10000, rmd_96, rmd_8, xg_at, xg_0, mr_at, up_xg, up_mr, narz_0, narz_1, i10, i01, i11, i00, ↓reduceIte, e10, e01, e50, e51, e20, e60, e70, e30, e40, Classical.not_not, not_true_eq_false, not_false_eq_true, ald_in hk5, ald_in hp3, x_fine hb8]
  simp only [nm_ap, bnd_ap, bns_ap, bnx_ap0, bnx_ap1, bnx_ap2, bnx_ap3, bnx_ap4, gz_0, gz_1, dvd_96, dvd_2, dvd_10000, rmd_96, rmd_8, xg_at, xg_0, mr_at, up_xg, up_mr, narz_0, narz_1, i10, i01, i11, i00, ↓reduceIte, e10, e01, e50, e51, e20, e60, e70, e30, e40, Classical.not_not, not_true_eq_false, not_false_eq_true, ald_in hb8, ast_in hb8, ald_in hp3, ast_in hp3, p2_if, Nat.reduceEqDiff, ↓reduceIte]
  simp (disch := omega) only [upd_at, upd_ne, p2_at, p2_ne]
/-! the class alone, out of the whole check's mathematics -/
def dif (G : Gd) (p : Nat) (set days : Int32) : Int32 := if (G 19 p).toInt < (Pr G set days (G 18 p)).toInt then Pr G set days (G 18 p) - G 19 p else 0
def Gren (G : Gd) (p : Nat) (set days d : Int32) : Gd := p2 (p2 (p2 (p2 G 15 p set) 17 p days) 19 p (G 19 p + d)) 6 0 (G 6 0 + d)
theorem x_newPrice {σ : Sig} {n : Nat} {G : Gd} (hi : Iv G) {p set days : Int32} (hp : 0 ≤ p.toInt ∧ p.toInt < (G 4 0).toInt) (hd : 1 ≤ days.toInt ∧ days.toInt ≤ 14) : f4_payNewPrice n p (xg σ n (p2 (p2 G 15 p.toInt.toNat set) 17 p.toInt.toNat days)) = some (dif G p.toInt.toNat set days, xg σ n (Gren G p.toInt.toNat set days (dif G p.toInt.toNat set days))) := by
  have h0 := hi.1
  have h1 := hi.p (p := p.toInt.toNat) (by omega)
  have hp' : 0 ≤ p.toInt ∧ p.toInt < ((30 : Nat) : Int) := by omega
  have hP := Pr_in hi (set := set) (kind := G 18 p.toInt.toNat) hd
  have es : (Pr G set days (G 18 p.toInt.toNat) - G 19 p.toInt.toNat).toInt = (Pr G set days (G 18 p.toInt.toNat)).toInt - (G 19 p.toInt.toNat).toInt := tv_sub rfl rfl (by omega)
  have hx : ∀ k, f10_priceOfPass n set days k (xg σ n (p2 (p2 G 15 p.toInt.toNat set) 17 p.toInt.toNat days)) = some (Pr G set days k) := by
    intro k
    rw [x_price (by simp only [p2_if, Nat.reduceEqDiff, ↓reduceIte]; omega)]
    show some (Pr (p2 (p2 G 15 p.toInt.toNat set) 17 p.toInt.toNat days) set days k) = _
    exact congrArg some (Pr_congr (G := G) (G' := p2 (p2 G 15 p.toInt.toNat set) 17 p.toInt.toNat days) rfl rfl)
  unfold f4_payNewPrice Gren
  simp only [nm_ap, bnd_ap, bns_ap, bnx_ap0, bnx_ap1, bnx_ap2, bnx_ap3, bnx_ap4, gz_0, gz_1, dvd_96, dvd_2, dvd_10000, rmd_96, rmd_8, xg_at, xg_0, mr_at, up_xg, up_mr, narz_0, narz_1, i10, i01, i11, i00, ↓reduceIte, e10, e01, e50, e51, e20, e60, e70, e30, e40, Classical.not_not, not_true_eq_false, not_false_eq_true, ald_in hp', ast_in hp', p2_if, Nat.reduceEqDiff, ↓reduceIte, upd_at, hx]
  have ev : (if (0 : Int32) < Pr G set days (G 18 p.toInt.toNat) - G 19 p.toInt.toNat then Pr G set days (G 18 p.toInt.toNat) - G 19 p.toInt.toNat else 0) = dif G p.toInt.toNat set days := by
    unfold dif
    simp only [Int32.lt_iff_toInt_lt, es, Int32.reduceToInt]
    split
    · rw [if_pos (by omega)]
    · rw [if_neg (by omega)]
  rw [ev]
def Gbed (G : Gd) (N : Nat) (sc pl f l : Int32) : Gd := p2 (p2 (p2 (p2 (p2 (p2 (p2 (p2 G 8 N sc) 9 N pl) 10 N f) 11 N l) 12 N 20) 13 N 0) 14 N 0) 3 0 (G 3 0 + 1)
theorem x_bed {σ : Sig} {n : Nat} {G : Gd} {sc pl f l : Int32} (hb : 0 ≤ (G 3 0).toInt ∧ (G 3 0).toInt < 8) : f0_add n sc pl f l (xg σ n G) = some (G 3 0, xg σ n (Gbed G (G 3 0).toInt.toNat sc pl f l)) := by
  have hb' : 0 ≤ (G 3 0).toInt ∧ (G 3 0).toInt < ((8 : Nat) : Int) := hb
  unfold f0_add Gbed
  simp only [nm_ap, bnd_ap, bns_ap, bnx_ap0, bnx_ap1, bnx_ap2, bnx_ap3, bnx_ap4, gz_0, gz_1, dvd_96, dvd_2, dvd_10000, rmd_96, rmd_8, xg_at, xg_0, mr_at, up_xg, up_mr, narz_0, narz_1, i10, i01, i11, i00, ↓reduceIte, e10, e01, e50, e51, e20, e60, e70, e30, e40, Classical.not_not, not_true_eq_false, not_false_eq_true, ast_in hb', p2_if, Nat.reduceEqDiff, ↓reduceIte]
def Gsel (G : Gd) (P K : Nat) (set day days kind pr : Int32) : Gd := p2 (p2 (p2 (p2 (p2 (p2 (p2 (p2 (p2 (p2 (p2 (p2 (p2 (p2 (p2 (p2 (p2 (p2 G 15 P set) 16 P day) 17 P days) 18 P kind) 19 P pr) 20 P (-1)) 21 P 0) 22 P 0) 23 P 0) 24 P (-1)) 25 P (-1)) 26 P 0) 4 0 (G 4 0 + 1)) 27 K (G 4 0)) 28 K 0) 5 0 (G 5 0 + 1)) 20 P (G 5 0)) 6 0 (G 6 0 + pr)
theorem x_sell {σ : Sig} {n : Nat} {G : Gd} {set day days kind : Int32} (hs : 0 ≤ (G 2 0).toInt ∧ (G 2 0).toInt ≤ 5) (hP : 0 ≤ (G 4 0).toInt ∧ (G 4 0).toInt < 30) (hK : 0 ≤ (G 5 0).toInt ∧ (G 5 0).toInt < 50) : f4_sellPass n set day days kind (xg σ n G) = some (G 4 0, xg σ n (Gsel G (G 4 0).toInt.toNat (G 5 0).toInt.toNat set day days kind (Pr G set days kind))) := by
  have hP' : 0 ≤ (G 4 0).toInt ∧ (G 4 0).toInt < ((30 : Nat) : Int) := hP
  have hK' : 0 ≤ (G 5 0).toInt ∧ (G 5 0).toInt < ((50 : Nat) : Int) := hK
  unfold f4_sellPass f7_add f2_add Gsel
  rw [x_price hs]
  rw [show Pz (G 2 0).toInt.toNat (G 7) set days kind = Pr G set days kind from rfl]
  simp only [nm_ap, bnd_ap, bns_ap, bnx_ap0, bnx_ap1, bnx_ap2, bnx_ap3, bnx_ap4, gz_0, gz_1, dvd_96, dvd_2, dvd_10000, rmd_96, rmd_8, xg_at, xg_0, mr_at, up_xg, up_mr, narz_0, narz_1, i10, i01, i11, i00, ↓reduceIte, e10, e01, e50, e51, e20, e60, e70, e30, e40, Classical.not_not, not_true_eq_false, not_false_eq_true, ast_in hP', ast_in hK', p2_if, Nat.reduceEqDiff, ↓reduceIte]
def Gcrd (G : Gd) (p K : Nat) (pi : Int32) : Gd := p2 (p2 (p2 (p2 (p2 G 27 K pi) 28 K 0) 5 0 (G 5 0 + 1)) 20 p (G 5 0)) 6 0 (G 6 0 + 5)
theorem x_card {σ : Sig} {n : Nat} {G : Gd} {p : Int32} (hp : 0 ≤ p.toInt ∧ p.toInt < 30) (hK : 0 ≤ (G 5 0).toInt ∧ (G 5 0).toInt < 50) : f4_issueNewCard n p (xg σ n G) = some (G 5 0, xg σ n (Gcrd G p.toInt.toNat (G 5 0).toInt.toNat p)) := by
  have hp' : 0 ≤ p.toInt ∧ p.toInt < ((30 : Nat) : Int) := hp
  have hK' : 0 ≤ (G 5 0).toInt ∧ (G 5 0).toInt < ((50 : Nat) : Int) := hK
  unfold f4_issueNewCard f2_add Gcrd
  simp only [nm_ap, bnd_ap, bns_ap, bnx_ap0, bnx_ap1, bnx_ap2, bnx_ap3, bnx_ap4, gz_0, gz_1, dvd_96, dvd_2, dvd_10000, rmd_96, rmd_8, xg_at, xg_0, mr_at, up_xg, up_mr, narz_0, narz_1, i10, i01, i11, i00, ↓reduceIte, e10, e01, e50, e51, e20, e60, e70, e30, e40, Classical.not_not, not_true_eq_false, not_false_eq_true, ast_in hp', ald_in hp', ast_in hK', p2_if, Nat.reduceEqDiff, ↓reduceIte, upd_at]
def Gsc (G : Gd) (N : Nat) (v : Int32) : Gd := p2 (p2 G 7 N v) 2 0 (G 2 0 + 1)
theorem x_scent {σ : Sig} {n : Nat} {G : Gd} {v : Int32} (hs : 0 ≤ (G 2 0).toInt ∧ (G 2 0).toInt < 5) : f10_add n v (xg σ n G) = some (xg σ n (Gsc G (G 2 0).toInt.toNat v)) := by
  have hs' : 0 ≤ (G 2 0).toInt ∧ (G 2 0).toInt < ((5 : Nat) : Int) := hs
  unfold f10_add Gsc
  simp only [nm_ap, bnd_ap, bns_ap, bnx_ap0, bnx_ap1, bnx_ap2, bnx_ap3, bnx_ap4, gz_0, gz_1, dvd_96, dvd_2, dvd_10000, rmd_96, rmd_8, xg_at, xg_0, mr_at, up_xg, up_mr, narz_0, narz_1, i10, i01, i11, i00, ↓reduceIte, e10, e01, e50, e51, e20, e60, e70, e30, e40, Classical.not_not, not_true_eq_false, not_false_eq_true, ast_in hs', p2_if, Nat.reduceEqDiff, ↓reduceIte]
def Gwlk (G : Gd) (a b : Int32) : Gd := p2 (p2 G 1 1 a) 1 2 b
theorem x_walk {σ : Sig} {n : Nat} {G : Gd} {a b : Int32} : f3_letPeacocksWalk n a b (xg σ n G) = some (xg σ n (Gwlk G a b)) := by
  unfold f3_letPeacocksWalk Gwlk
  simp only [nm_ap, bnd_ap, bns_ap, bnx_ap0, bnx_ap1, bnx_ap2, bnx_ap3, bnx_ap4, gz_0, gz_1, dvd_96, dvd_2, dvd_10000, rmd_96, rmd_8, xg_at, xg_0, mr_at, up_xg, up_mr, narz_0, narz_1, i10, i01, i11, i00, ↓reduceIte, e10, e01, e50, e51, e20, e60, e70, e30, e40, Classical.not_not, not_true_eq_false, not_false_eq_true]
/-! the class alone, out of the whole check's mathematics -/
theorem iv_6 {G : Gd} (hi : Iv G) (j : Nat) (v : Int32) : Iv (p2 G 6 j v) := by
  refine ⟨?_, fun i9 hi9 => ?_, fun b9 hb9 => ?_, fun q9 hq9 => ?_, fun k9 hk9 => ?_, ?_⟩
  · have hh := hi.1
    simp (disch := omega) only [upd_at, upd_ne, p2_at, p2_ne]
    omega
  · simp (disch := omega) only [upd_at, upd_ne, p2_at, p2_ne] at hi9
    have hh := hi.2.1 i9 hi9
    simp (disch := omega) only [upd_at, upd_ne, p2_at, p2_ne]
    first | exact hh | omega
  · simp (disch := omega) only [upd_at, upd_ne, p2_at, p2_ne] at hb9
    have hh := hi.2.2.1 b9 hb9
    simp (disch := omega) only [upd_at, upd_ne, p2_at, p2_ne]
    first | exact hh | omega
  · simp (disch := omega) only [upd_at, upd_ne, p2_at, p2_ne] at hq9
    have hh := hi.2.2.2.1 q9 hq9
    simp (disch := omega) only [upd_at, upd_ne, p2_at, p2_ne]
    first | exact hh | omega
  · simp (disch := omega) only [upd_at, upd_ne, p2_at, p2_ne] at hk9
    have hh := hi.2.2.2.2.1 k9 hk9
    simp (disch := omega) only [upd_at, upd_ne, p2_at, p2_ne]
    first | exact hh | omega
  · have hh := hi.2.2.2.2.2
    simp (disch := omega) only [upd_at, upd_ne, p2_at, p2_ne]
    exact hh
theorem iv_pay {G : Gd} (hi : Iv G) {p : Nat} (hp : (p : Int) < (G 4 0).toInt) {a : Int32} (ha : 0 ≤ a.toInt ∧ a.toInt ≤ (G 26 p).toInt) : Iv (Gpay G p a) := by
  have h1 := hi.p hp
  have ea : (G 26 p - a).toInt = (G 26 p).toInt - a.toInt := tv_sub rfl rfl (by omega)
  clear h1
  unfold Gpay
  refine ⟨?_, fun i9 hi9 => ?_, fun b9 hb9 => ?_, fun q9 hq9 => ?_, fun k9 hk9 => ?_, ?_⟩
  · have hh := hi.1
    simp (disch := omega) only [upd_at, upd_ne, p2_at, p2_ne]
    omega
  · simp (disch := omega) only [upd_at, upd_ne, p2_at, p2_ne] at hi9
    have hh := hi.2.1 i9 hi9
    simp (disch := omega) only [upd_at, upd_ne, p2_at, p2_ne]
    first | exact hh | omega
  · simp (disch := omega) only [upd_at, upd_ne, p2_at, p2_ne] at hb9
    have hh := hi.2.2.1 b9 hb9
    simp (disch := omega) only [upd_at, upd_ne, p2_at, p2_ne]
    first | exact hh | omega
  · simp (disch := omega) only [upd_at, upd_ne, p2_at, p2_ne] at hq9
    have hh := hi.2.2.2.1 q9 hq9
    by_cases e9_ : q9 = p
    · subst e9_
      simp (disch := omega) only [upd_at, upd_ne, p2_at, p2_ne]
      omega
    · simp (disch := omega) only [upd_at, upd_ne, p2_at, p2_ne]
      omega
  · simp (disch := omega) only [upd_at, upd_ne, p2_at, p2_ne] at hk9
    have hh := hi.2.2.2.2.1 k9 hk9
    simp (disch := omega) only [upd_at, upd_ne, p2_at, p2_ne]
    first | exact hh | omega
  · have hh := hi.2.2.2.2.2
    simp (disch := omega) only [upd_at, upd_ne, p2_at, p2_ne]
    exact hh
theorem iv_los {G : Gd} (hi : Iv G) {p : Nat} (hp : (p : Int) < (G 4 0).toInt) (hc : 0 ≤ (G 20 p).toInt ∧ (G 20 p).toInt < (G 5 0).toInt) : Iv (Glos G p) := by
  have e0 : (-1 : Int32).toInt = -1 := rfl
  have e1 : (1 : Int32).toInt = 1 := rfl
  have h0 := hi.1
  unfold Glos
  generalize (G 20 p).toInt.toNat = c
  refine ⟨?_, fun i9 hi9 => ?_, fun b9 hb9 => ?_, fun q9 hq9 => ?_, fun k9 hk9 => ?_, ?_⟩
  · have hh := hi.1
    simp (disch := omega) only [upd_at, upd_ne, p2_at, p2_ne]
    omega
  · simp (disch := omega) only [upd_at, upd_ne, p2_at, p2_ne] at hi9
    have hh := hi.2.1 i9 hi9
    simp (disch := omega) only [upd_at, upd_ne, p2_at, p2_ne]
    first | exact hh | omega
  · simp (disch := omega) only [upd_at, upd_ne, p2_at, p2_ne] at hb9
    have hh := hi.2.2.1 b9 hb9
    simp (disch := omega) only [upd_at, upd_ne, p2_at, p2_ne]
    first | exact hh | omega
  · simp (disch := omega) only [upd_at, upd_ne, p2_at, p2_ne] at hq9
    have hh := hi.2.2.2.1 q9 hq9
    by_cases e9_ : q9 = p
    · subst e9_
      simp (disch := omega) only [upd_at, upd_ne, p2_at, p2_ne]
      omega
    · simp (disch := omega) only [upd_at, upd_ne, p2_at, p2_ne]
      omega
  · simp (disch := omega) only [upd_at, upd_ne, p2_at, p2_ne] at hk9
    have hh := hi.2.2.2.2.1 k9 hk9
    by_cases e9_ : k9 = c
    · subst e9_
      simp (disch := omega) only [upd_at, upd_ne, p2_at, p2_ne]
      omega
    · simp (disch := omega) only [upd_at, upd_ne, p2_at, p2_ne]
      omega
  · have hh := hi.2.2.2.2.2
    simp (disch := omega) only [upd_at, upd_ne, p2_at, p2_ne]
    exact hh
theorem iv_ret {G : Gd} (hi : Iv G) {p : Nat} (hp : (p : Int) < (G 4 0).toInt) : Iv (p2 G 21 p 1) := by
  have e1 : (1 : Int32).toInt = 1 := rfl
  refine ⟨?_, fun i9 hi9 => ?_, fun b9 hb9 => ?_, fun q9 hq9 => ?_, fun k9 hk9 => ?_, ?_⟩
  · have hh := hi.1
    simp (disch := omega) only [upd_at, upd_ne, p2_at, p2_ne]
    omega
  · simp (disch := omega) only [upd_at, upd_ne, p2_at, p2_ne] at hi9
    have hh := hi.2.1 i9 hi9
    simp (disch := omega) only [upd_at, upd_ne, p2_at, p2_ne]
    first | exact hh | omega
  · simp (disch := omega) only [upd_at, upd_ne, p2_at, p2_ne] at hb9
    have hh := hi.2.2.1 b9 hb9
    simp (disch := omega) only [upd_at, upd_ne, p2_at, p2_ne]
    first | exact hh | omega
  · simp (disch := omega) only [upd_at, upd_ne, p2_at, p2_ne] at hq9
    have hh := hi.2.2.2.1 q9 hq9
    by_cases e9_ : q9 = p
    · subst e9_
      simp (disch := omega) only [upd_at, upd_ne, p2_at, p2_ne]
      omega
    · simp (disch := omega) only [upd_at, upd_ne, p2_at, p2_ne]
      omega
  · simp (disch := omega) only [upd_at, upd_ne, p2_at, p2_ne] at hk9
    have hh := hi.2.2.2.2.1 k9 hk9
    simp (disch := omega) only [upd_at, upd_ne, p2_at, p2_ne]
    first | exact hh | omega
  · have hh := hi.2.2.2.2.2
    simp (disch := omega) only [upd_at, upd_ne, p2_at, p2_ne]
    exact hh
theorem iv_wlk {G : Gd} (hi : Iv G) (a b : Int32) : Iv (Gwlk G a b) := by
  unfold Gwlk
  refine ⟨?_, fun i9 hi9 => ?_, fun b9 hb9 => ?_, fun q9 hq9 => ?_, fun k9 hk9 => ?_, ?_⟩
  · have hh := hi.1
    simp (disch := omega) only [upd_at, upd_ne, p2_at, p2_ne]
    omega
  · simp (disch := omega) only [upd_at, upd_ne, p2_at, p2_ne] at hi9
    have hh := hi.2.1 i9 hi9
    simp (disch := omega) only [upd_at, upd_ne, p2_at, p2_ne]
    first | exact hh | omega
  · simp (disch := omega) only [upd_at, upd_ne, p2_at, p2_ne] at hb9
    have hh := hi.2.2.1 b9 hb9
    simp (disch := omega) only [upd_at, upd_ne, p2_at, p2_ne]
    first | exact hh | omega
  · simp (disch := omega) only [upd_at, upd_ne, p2_at, p2_ne] at hq9
    have hh := hi.2.2.2.1 q9 hq9
    simp (disch := omega) only [upd_at, upd_ne, p2_at, p2_ne]
    first | exact hh | omega
  · simp (disch := omega) only [upd_at, upd_ne, p2_at, p2_ne] at hk9
    have hh := hi.2.2.2.2.1 k9 hk9
    simp (disch := omega) only [upd_at, upd_ne, p2_at, p2_ne]
    first | exact hh | omega
  · have hh := hi.2.2.2.2.2
    simp (disch := omega) only [upd_at, upd_ne, p2_at, p2_ne]
    exact hh
theorem iv_rate {G : Gd} (hi : Iv G) {a : Int32} (ha : 1 ≤ a.toInt ∧ a.toInt ≤ 20) : Iv (p2 G 2 1 a) := by
  refine ⟨?_, fun i9 hi9 => ?_, fun b9 hb9 => ?_, fun q9 hq9 => ?_, fun k9 hk9 => ?_, ?_⟩
  · have hh := hi.1
    simp (disch := omega) only [upd_at, upd_ne, p2_at, p2_ne]
    omega
  · simp (disch := omega) only [upd_at, upd_ne, p2_at, p2_ne] at hi9
    have hh := hi.2.1 i9 hi9
    simp (disch := omega) only [upd_at, upd_ne, p2_at, p2_ne]
    first | exact hh | omega
  · simp (disch := omega) only [upd_at, upd_ne, p2_at, p2_ne] at hb9
    have hh := hi.2.2.1 b9 hb9
    simp (disch := omega) only [upd_at, upd_ne, p2_at, p2_ne]
    first | exact hh | omega
  · simp (disch := omega) only [upd_at, upd_ne, p2_at, p2_ne] at hq9
    have hh := hi.2.2.2.1 q9 hq9
    simp (disch := omega) only [upd_at, upd_ne, p2_at, p2_ne]
    first | exact hh | omega
  · simp (disch := omega) only [upd_at, upd_ne, p2_at, p2_ne] at hk9
    have hh := hi.2.2.2.2.1 k9 hk9
    simp (disch := omega) only [upd_at, upd_ne, p2_at, p2_ne]
    first | exact hh | omega
  · have hh := hi.2.2.2.2.2
    simp (disch := omega) only [upd_at, upd_ne, p2_at, p2_ne]
    exact hh
theorem iv_pause {G : Gd} (hi : Iv G) {a : Int32} (ha : 0 ≤ a.toInt ∧ a.toInt ≤ 8) : Iv (p2 G 0 6 a) := by
  refine ⟨?_, fun i9 hi9 => ?_, fun b9 hb9 => ?_, fun q9 hq9 => ?_, fun k9 hk9 => ?_, ?_⟩
  · have hh := hi.1
    simp (disch := omega) only [upd_at, upd_ne, p2_at, p2_ne]
    omega
  · simp (disch := omega) only [upd_at, upd_ne, p2_at, p2_ne] at hi9
    have hh := hi.2.1 i9 hi9
    simp (disch := omega) only [upd_at, upd_ne, p2_at, p2_ne]
    first | exact hh | omega
  · simp (disch := omega) only [upd_at, upd_ne, p2_at, p2_ne] at hb9
    have hh := hi.2.2.1 b9 hb9
    simp (disch := omega) only [upd_at, upd_ne, p2_at, p2_ne]
    first | exact hh | omega
  · simp (disch := omega) only [upd_at, upd_ne, p2_at, p2_ne] at hq9
    have hh := hi.2.2.2.1 q9 hq9
    simp (disch := omega) only [upd_at, upd_ne, p2_at, p2_ne]
    first | exact hh | omega
  · simp (disch := omega) only [upd_at, upd_ne, p2_at, p2_ne] at hk9
    have hh := hi.2.2.2.2.1 k9 hk9
    simp (disch := omega) only [upd_at, upd_ne, p2_at, p2_ne]
    first | exact hh | omega
  · have hh := hi.2.2.2.2.2
    simp (disch := omega) only [upd_at, upd_ne, p2_at, p2_ne]
    exact hh
theorem iv_price {G : Gd} (hi : Iv G) {i : Nat} {a : Int32} (ha : 1 ≤ a.toInt ∧ a.toInt ≤ 99) : Iv (p2 G 7 i a) := by
  refine ⟨?_, fun i9 hi9 => ?_, fun b9 hb9 => ?_, fun q9 hq9 => ?_, fun k9 hk9 => ?_, ?_⟩
  · have hh := hi.1
    simp (disch := omega) only [upd_at, upd_ne, p2_at, p2_ne]
    omega
  · simp (disch := omega) only [upd_at, upd_ne, p2_at, p2_ne] at hi9
    have hh := hi.2.1 i9 hi9
    by_cases e9_ : i9 = i
    · subst e9_
      simp (disch := omega) only [upd_at, upd_ne, p2_at, p2_ne]
      omega
    · simp (disch := omega) only [upd_at, upd_ne, p2_at, p2_ne]
      omega
  · simp (disch := omega) only [upd_at, upd_ne, p2_at, p2_ne] at hb9
    have hh := hi.2.2.1 b9 hb9
    simp (disch := omega) only [upd_at, upd_ne, p2_at, p2_ne]
    first | exact hh | omega
  · simp (disch := omega) only [upd_at, upd_ne, p2_at, p2_ne] at hq9
    have hh := hi.2.2.2.1 q9 hq9
    simp (disch := omega) only [upd_at, upd_ne, p2_at, p2_ne]
    first | exact hh | omega
  · simp (disch := omega) only [upd_at, upd_ne, p2_at, p2_ne] at hk9
    have hh := hi.2.2.2.2.1 k9 hk9
    simp (disch := omega) only [upd_at, upd_ne, p2_at, p2_ne]
    first | exact hh | omega
  · have hh := hi.2.2.2.2.2
    simp (disch := omega) only [upd_at, upd_ne, p2_at, p2_ne]
    exact hh
theorem iv_sc {G : Gd} (hi : Iv G) {N : Nat} (hN : (G 2 0).toInt = N) (hN5 : N < 5) {a : Int32} (ha : 1 ≤ a.toInt ∧ a.toInt ≤ 99) : Iv (Gsc G N a) := by
  have en : (G 2 0 + 1).toInt = N + 1 := tv_add hN rfl (by omega)
  unfold Gsc
  refine ⟨?_, fun i9 hi9 => ?_, fun b9 hb9 => ?_, fun q9 hq9 => ?_, fun k9 hk9 => ?_, ?_⟩
  · have hh := hi.1
    simp (disch := omega) only [upd_at, upd_ne, p2_at, p2_ne, en]
    omega
  · simp (disch := omega) only [upd_at, upd_ne, p2_at, p2_ne, en] at hi9
    by_cases e9_ : i9 = N
    · subst e9_
      simp (disch := omega) only [upd_at, upd_ne, p2_at, p2_ne, en]
      omega
    · have hh := hi.2.1 i9 (by omega)
      simp (disch := omega) only [upd_at, upd_ne, p2_at, p2_ne, en]
      omega
  · simp (disch := omega) only [upd_at, upd_ne, p2_at, p2_ne, en] at hb9
    have hh := hi.2.2.1 b9 hb9
    simp (disch := omega) only [upd_at, upd_ne, p2_at, p2_ne, en]
    first | exact hh | omega
  · simp (disch := omega) only [upd_at, upd_ne, p2_at, p2_ne, en] at hq9
    have hh := hi.2.2.2.1 q9 hq9
    simp (disch := omega) only [upd_at, upd_ne, p2_at, p2_ne, en]
    first | exact hh | omega
  · simp (disch := omega) only [upd_at, upd_ne, p2_at, p2_ne, en] at hk9
    have hh := hi.2.2.2.2.1 k9 hk9
    simp (disch := omega) only [upd_at, upd_ne, p2_at, p2_ne, en]
    first | exact hh | omega
  · have hh := hi.2.2.2.2.2
    simp (disch := omega) only [upd_at, upd_ne, p2_at, p2_ne, en]
    exact hh
theorem iv_crd {G : Gd} (hi : Iv G) {p K : Nat} (hp : (p : Int) < (G 4 0).toInt) (hK : (G 5 0).toInt = K) (hK5 : K < 50) {pi : Int32} (hpi : pi.toInt = p) : Iv (Gcrd G p K pi) := by
  have ek : (G 5 0 + 1).toInt = K + 1 := tv_add hK rfl (by omega)
  have e0 : (0 : Int32).toInt = 0 := rfl
  unfold Gcrd
  refine ⟨?_, fun i9 hi9 => ?_, fun b9 hb9 => ?_, fun q9 hq9 => ?_, fun k9 hk9 => ?_, ?_⟩
  · have hh := hi.1
    simp (disch := omega) only [upd_at, upd_ne, p2_at, p2_ne, ek]
    omega
  · simp (disch := omega) only [upd_at, upd_ne, p2_at, p2_ne, ek] at hi9
    have hh := hi.2.1 i9 hi9
    simp (disch := omega) only [upd_at, upd_ne, p2_at, p2_ne, ek]
    first | exact hh | omega
  · simp (disch := omega) only [upd_at, upd_ne, p2_at, p2_ne, ek] at hb9
    have hh := hi.2.2.1 b9 hb9
    simp (disch := omega) only [upd_at, upd_ne, p2_at, p2_ne, ek]
    first | exact hh | omega
  · simp (disch := omega) only [upd_at, upd_ne, p2_at, p2_ne, ek] at hq9
    have hh := hi.2.2.2.1 q9 hq9
    by_cases e9_ : q9 = p
    · subst e9_
      simp (disch := omega) only [upd_at, upd_ne, p2_at, p2_ne, ek]
      omega
    · simp (disch := omega) only [upd_at, upd_ne, p2_at, p2_ne, ek]
      omega
  · simp (disch := omega) only [upd_at, upd_ne, p2_at, p2_ne, ek] at hk9
    by_cases e9_ : k9 = K
    · subst e9_
      simp (disch := omega) only [upd_at, upd_ne, p2_at, p2_ne, ek]
      omega
    · have hh := hi.2.2.2.2.1 k9 (by omega)
      simp (disch := omega) only [upd_at, upd_ne, p2_at, p2_ne, ek]
      omega
  · have hh := hi.2.2.2.2.2
    simp (disch := omega) only [upd_at, upd_ne, p2_at, p2_ne, ek]
    exact hh
theorem iv_bed {G : Gd} (hi : Iv G) {N : Nat} (hN : (G 3 0).toInt = N) (hN8 : N < 8) {sc pl f l : Int32} (hpl : 1 ≤ pl.toInt ∧ pl.toInt ≤ 20) : Iv (Gbed G N sc pl f l) := by
  have en : (G 3 0 + 1).toInt = N + 1 := tv_add hN rfl (by omega)
  have e0 : (0 : Int32).toInt = 0 := rfl
  have e20 : (20 : Int32).toInt = 20 := rfl
  have h00 := hi.1
  have hs := hi.2.2.2.2.2
  rw [hN] at hs
  unfold Gbed
  refine ⟨?_, fun i9 hi9 => ?_, fun b9 hb9 => ?_, fun q9 hq9 => ?_, fun k9 hk9 => ?_, ?_⟩
  · simp (disch := omega) only [upd_at, upd_ne, p2_at, p2_ne, en]
    omega
  · simp (disch := omega) only [upd_at, upd_ne, p2_at, p2_ne] at hi9 ⊢
    exact hi.2.1 i9 hi9
  · simp (disch := omega) only [upd_at, upd_ne, p2_at, p2_ne, en] at hb9
    by_cases e9_ : b9 = N
    · subst e9_
      simp (disch := omega) only [upd_at, upd_ne, p2_at, p2_ne]
      omega
    · have hh := hi.b (b := b9) (by omega)
      simp (disch := omega) only [upd_at, upd_ne, p2_at, p2_ne]
      exact hh
  · simp (disch := omega) only [upd_at, upd_ne, p2_at, p2_ne] at hq9
    have hh := hi.p hq9
    have e12 : ¬ ((G 25 q9).toInt.toNat = N ∧ (G 24 q9).toInt = (G 1 0).toInt) := by omega
    simp (disch := omega) only [upd_at, upd_ne, p2_at, p2_ne, en]
    by_cases e25 : (G 25 q9).toInt.toNat = N
    · rw [e25, upd_at]
      omega
    · rw [upd_ne _ _ e25]
      omega
  · simp (disch := omega) only [upd_at, upd_ne, p2_at, p2_ne] at hk9 ⊢
    exact hi.k hk9
  · simp (disch := omega) only [upd_at, upd_ne, p2_at, p2_ne, en]
    rw [hs, show ((N : Int) + 1).toNat = N + 1 by omega, show (N : Int).toNat = N by omega]
    simp only [sm, upd_at]
    rw [sm_upd_out (Nat.le_refl N), e0]
    omega
theorem iv_sel {G : Gd} (hi : Iv G) {P K : Nat} (hP : (G 4 0).toInt = P) (hK : (G 5 0).toInt = K) (hP3 : P < 30) (hK5 : K < 50) {set day days kind pr : Int32} (hday : 0 ≤ day.toInt ∧ day.toInt ≤ 99) (hdays : 1 ≤ days.toInt ∧ days.toInt ≤ 14) (hkind : 0 ≤ kind.toInt ∧ kind.toInt ≤ 1) (hpr : 0 ≤ pr.toInt ∧ pr.toInt ≤ 6930) : Iv (Gsel G P K set day days kind pr) := by
  have en : (G 4 0 + 1).toInt = P + 1 := tv_add hP rfl (by omega)
  have ek : (G 5 0 + 1).toInt = K + 1 := tv_add hK rfl (by omega)
  have e0 : (0 : Int32).toInt = 0 := rfl
  have em : (-1 : Int32).toInt = -1 := rfl
  have h00 := hi.1
  have hs := hi.2.2.2.2.2
  rw [hP] at hs
  unfold Gsel
  refine ⟨?_, fun i9 hi9 => ?_, fun b9 hb9 => ?_, fun q9 hq9 => ?_, fun k9 hk9 => ?_, ?_⟩
  · simp (disch := omega) only [upd_at, upd_ne, p2_at, p2_ne, en, ek]
    omega
  · simp (disch := omega) only [upd_at, upd_ne, p2_at, p2_ne] at hi9 ⊢
    exact hi.2.1 i9 hi9
  · simp (disch := omega) only [upd_at, upd_ne, p2_at, p2_ne] at hb9 ⊢
    exact hi.b hb9
  · simp (disch := omega) only [upd_at, upd_ne, p2_at, p2_ne, en] at hq9
    by_cases e9_ : q9 = P
    · subst e9_
      simp (disch := omega) only [upd_at, upd_ne, p2_at, p2_ne, ek]
      and_intros
      all_goals first | trivial | omega
    · have hh := hi.p (p := q9) (by omega)
      simp (disch := omega) only [upd_at, upd_ne, p2_at, p2_ne, ek]
      omega
  · simp (disch := omega) only [upd_at, upd_ne, p2_at, p2_ne, ek] at hk9
    by_cases e9_ : k9 = K
    · subst e9_
      simp (disch := omega) only [upd_at, upd_ne, p2_at, p2_ne, en]
      omega
    · have hh := hi.k (k := k9) (by omega)
      simp (disch := omega) only [upd_at, upd_ne, p2_at, p2_ne, en]
      omega
  · simp (disch := omega) only [upd_at, upd_ne, p2_at, p2_ne, en]
    rw [← hs, show ((P : Int) + 1).toNat = P + 1 by omega, show (P : Int).toNat = P by omega]
    simp only [sm, upd_at]
    rw [sm_upd_out (Nat.le_refl P), e0]
    omega
theorem iv_ren {G : Gd} (hi : Iv G) {p : Nat} (hp : (p : Int) < (G 4 0).toInt) {set days : Int32} (hd : 1 ≤ days.toInt ∧ days.toInt ≤ 14) : Iv (Gren G p set days (dif G p set days)) := by
  have h1 := hi.p hp
  have hP := Pr_in hi (set := set) (kind := G 18 p) hd
  have ed : 0 ≤ (G 19 p + dif G p set days).toInt ∧ (G 19 p + dif G p set days).toInt ≤ 6930 := by
    unfold dif
    split
    · have es : (Pr G set days (G 18 p) - G 19 p).toInt = (Pr G set days (G 18 p)).toInt - (G 19 p).toInt := tv_sub rfl rfl (by omega)
      have e2 : (G 19 p + (Pr G set days (G 18 p) - G 19 p)).toInt = (G 19 p).toInt + ((Pr G set days (G 18 p)).toInt - (G 19 p).toInt) := tv_add rfl es (by omega)
      omega
    · rw [Int32.add_zero]; omega
  clear h1
  generalize dif G p set days = d at ed ⊢
  unfold Gren
  refine ⟨?_, fun i9 hi9 => ?_, fun b9 hb9 => ?_, fun q9 hq9 => ?_, fun k9 hk9 => ?_, ?_⟩
  · have hh := hi.1
    simp (disch := omega) only [upd_at, upd_ne, p2_at, p2_ne]
    omega
  · simp (disch := omega) only [upd_at, upd_ne, p2_at, p2_ne] at hi9
    have hh := hi.2.1 i9 hi9
    simp (disch := omega) only [upd_at, upd_ne, p2_at, p2_ne]
    first | exact hh | omega
  · simp (disch := omega) only [upd_at, upd_ne, p2_at, p2_ne] at hb9
    have hh := hi.2.2.1 b9 hb9
    simp (disch := omega) only [upd_at, upd_ne, p2_at, p2_ne]
    first | exact hh | omega
  · simp (disch := omega) only [upd_at, upd_ne, p2_at, p2_ne] at hq9
    have hh := hi.2.2.2.1 q9 hq9
    by_cases e9_ : q9 = p
    · subst e9_
      simp (disch := omega) only [upd_at, upd_ne, p2_at, p2_ne]
      omega
    · simp (disch := omega) only [upd_at, upd_ne, p2_at, p2_ne]
      omega
  · simp (disch := omega) only [upd_at, upd_ne, p2_at, p2_ne] at hk9
    have hh := hi.2.2.2.2.1 k9 hk9
    simp (disch := omega) only [upd_at, upd_ne, p2_at, p2_ne]
    first | exact hh | omega
  · have hh := hi.2.2.2.2.2
    simp (disch := omega) only [upd_at, upd_ne, p2_at, p2_ne]
    exact hh
theorem or_nat (n m : Nat) : Int32.ofNat n ||| Int32.ofNat m = Int32.ofNat (n ||| m) := by
  rw [← UInt32.toInt32_ofNat', ← UInt32.toInt32_ofNat', ← UInt32.toInt32_ofNat', UInt32.ofNat_or, UInt32.toInt32_or]
theorem pow_dec : ∀ s : Fin 14, (1 : Int32) <<< (Int32.ofNat s.1 &&& 31) = Int32.ofNat (2 ^ s.1) := by decide +kernel
theorem us_in {u d : Int32} (hu : 0 ≤ u.toInt ∧ u.toInt < 16384) (hd : 0 ≤ d.toInt ∧ d.toInt ≤ 13) : 1 ≤ (u ||| (1 : Int32) <<< (d &&& 31)).toInt ∧ (u ||| (1 : Int32) <<< (d &&& 31)).toInt < 16384 := by
  have eu : u = Int32.ofNat u.toInt.toNat := ti_ext (by rw [oN _ (by omega)]; omega)
  have ed : d = Int32.ofNat d.toInt.toNat := ti_ext (by rw [oN _ (by omega)]; omega)
  have q := pow_dec ⟨d.toInt.toNat, by omega⟩
  have h1 : 2 ^ d.toInt.toNat < 2 ^ 14 := Nat.pow_lt_pow_right (by decide) (by omega)
  have h2 : 1 ≤ 2 ^ d.toInt.toNat := Nat.one_le_two_pow
  have h3 := Nat.or_lt_two_pow (x := u.toInt.toNat) (y := 2 ^ d.toInt.toNat) (n := 14) (by omega) h1
  have h4 : 2 ^ d.toInt.toNat ≤ u.toInt.toNat ||| 2 ^ d.toInt.toNat := Nat.right_le_or
  have e : u ||| (1 : Int32) <<< (d &&& 31) = Int32.ofNat (u.toInt.toNat ||| 2 ^ d.toInt.toNat) := by
    rw [← or_nat, ← eu, ← q]
    dsimp only
    rw [← ed]
  rw [e, oN _ (by omega)]
  omega
theorem sm_ge {f : Nat → Int32} {n : Nat} (h : ∀ k, k < n → 0 ≤ (f k).toInt) {k : Nat} (hk : k < n) : (f k).toInt ≤ sm f n := by
  induction n with
  | zero => omega
  | succ n ih =>
    simp only [sm]
    have h0 := sm_nonneg (fun k hk => h k (by omega) : ∀ k, k < n → 0 ≤ (f k).toInt)
    have h1 := h n (by omega)
    by_cases e : k = n
    · subst e; omega
    · have := ih (fun k hk => h k (by omega)) (by omega); omega
theorem vis_all {G : Gd} (hi : Iv G) : 0 ≤ sm (G 23) (G 4 0).toInt.toNat ∧ sm (G 23) (G 4 0).toInt.toNat ≤ 1536000 := by
  have h0 := hi.1
  have hs := hi.2.2.2.2.2
  have h1 := sm_nonneg (f := G 13) (n := (G 3 0).toInt.toNat) (fun k hk => by have := hi.b (b := k) (by omega); omega)
  have h2 := sm_le (f := G 13) (n := (G 3 0).toInt.toNat) (B := 192000) (fun k hk => by have := hi.b (b := k) (by omega); omega)
  omega
theorem vis_sm {G : Gd} (hi : Iv G) {p : Nat} (hp : (p : Int) < (G 4 0).toInt) : 0 ≤ (G 23 p).toInt ∧ (G 23 p).toInt ≤ 1536000 := by
  have h0 := hi.1
  have ha := vis_all hi
  have h1 := sm_ge (f := G 23) (n := (G 4 0).toInt.toNat) (fun k hk => by have := hi.p (p := k) (by omega); omega) (k := p) (by omega)
  have h2 := hi.p hp
  omega
theorem Rf_0 {G : Gd} {k b : Nat} (h : Rf G k b = 0) : (G 28 k).toInt = 0 ∧ (G 16 (G 27 k).toInt.toNat).toInt ≤ (Td G).toInt ∧ (Td G).toInt < (G 16 (G 27 k).toInt.toNat).toInt + (G 17 (G 27 k).toInt.toNat).toInt ∧ (G 26 (G 27 k).toInt.toNat).toInt ≤ 30 ∧ (G 14 b).toInt < (G 9 b).toInt := by
  unfold Rf at h
  repeat' (split at h)
  all_goals first | (exact absurd h (by decide)) | omega
theorem iv_vis {G : Gd} (hi : Iv G) {p b : Nat} (hp : (p : Int) < (G 4 0).toInt) (hb : (b : Int) < (G 3 0).toInt) {bi : Int32} (hbi : bi.toInt = b) (h1 : (G 16 p).toInt ≤ (Td G).toInt ∧ (Td G).toInt < (G 16 p).toInt + (G 17 p).toInt) (h2 : (G 26 p).toInt ≤ 30) (h3 : (G 14 b).toInt < (G 9 b).toInt) : Iv (Gvis G p b bi) := by
  have h00 := hi.1
  have ht := Td_in hi
  have hhp := hi.p hp
  have hhb := hi.b hb
  have hv := vis_sm hi hp
  have hs := hi.2.2.2.2.2
  have ed : (Td G - G 16 p).toInt = (Td G).toInt - (G 16 p).toInt := tv_sub rfl rfl (by omega)
  have hu := us_in (u := G 22 p) (d := Td G - G 16 p) (by omega) (by omega)
  have e13 : (G 13 b + 1).toInt = (G 13 b).toInt + 1 := tv_add rfl rfl (by omega)
  have e14 : (G 14 b + 1).toInt = (G 14 b).toInt + 1 := tv_add rfl rfl (by omega)
  have e23 : (G 23 p + 1).toInt = (G 23 p).toInt + 1 := tv_add rfl rfl (by omega)
  unfold Gvis
  generalize G 22 p ||| (1 : Int32) <<< ((Td G - G 16 p) &&& 31) = us at hu
  refine ⟨?_, fun i9 hi9 => ?_, fun b9 hb9 => ?_, fun q9 hq9 => ?_, fun k9 hk9 => ?_, ?_⟩
  · simp (disch := omega) only [upd_at, upd_ne, p2_at, p2_ne]
    omega
  · simp (disch := omega) only [upd_at, upd_ne, p2_at, p2_ne] at hi9 ⊢
    exact hi.2.1 i9 hi9
  · simp (disch := omega) only [upd_at, upd_ne, p2_at, p2_ne] at hb9
    have hh := hi.b hb9
    by_cases e9_ : b9 = b
    · subst e9_
      simp (disch := omega) only [upd_at, upd_ne, p2_at, p2_ne]
      omega
    · simp (disch := omega) only [upd_at, upd_ne, p2_at, p2_ne]
      exact hh
  · simp (disch := omega) only [upd_at, upd_ne, p2_at, p2_ne] at hq9
    have hh := hi.p hq9
    by_cases e9_ : q9 = p
    · subst e9_
      have eb : bi.toInt.toNat = b := by omega
      simp (disch := omega) only [upd_at, upd_ne, p2_at, p2_ne, eb]
      omega
    · simp (disch := omega) only [upd_at, upd_ne, p2_at, p2_ne]
      exact hh
  · simp (disch := omega) only [upd_at, upd_ne, p2_at, p2_ne] at hk9 ⊢
    exact hi.k hk9
  · simp (disch := omega) only [upd_at, upd_ne, p2_at, p2_ne]
    rw [sm_upd (by omega), sm_upd (by omega), hs, e13, e23]
    omega
theorem iv_plk {G : Gd} (hi : Iv G) {p b : Nat} (hp : (p : Int) < (G 4 0).toInt) (hb : (b : Int) < (G 3 0).toInt) {f bl : Int32} (h1 : (G 25 p).toInt = b) (h2 : (G 24 p).toInt = (G 1 0).toInt) (h3 : 1 ≤ bl.toInt ∧ bl.toInt ≤ (G 12 b).toInt) (h4 : 0 ≤ f.toInt ∧ f.toInt ≤ 40 * bl.toInt) : Iv (Gplk G p b f bl) := by
  have h00 := hi.1
  have hhp := hi.p hp
  have hhb := hi.b hb
  have hs := hi.2.2.2.2.2
  have e1 : (G 25 p).toInt.toNat = b := by omega
  rw [e1] at hhp
  have e12 : (G 12 b - bl).toInt = (G 12 b).toInt - bl.toInt := tv_sub rfl rfl (by omega)
  have e26 : (G 26 p + f).toInt = (G 26 p).toInt + f.toInt := tv_add rfl rfl (by omega)
  unfold Gplk
  refine ⟨?_, fun i9 hi9 => ?_, fun b9 hb9 => ?_, fun q9 hq9 => ?_, fun k9 hk9 => ?_, ?_⟩
  · simp (disch := omega) only [upd_at, upd_ne, p2_at, p2_ne]
    omega
  · simp (disch := omega) only [upd_at, upd_ne, p2_at, p2_ne] at hi9 ⊢
    exact hi.2.1 i9 hi9
  · simp (disch := omega) only [upd_at, upd_ne, p2_at, p2_ne] at hb9
    have hh := hi.b hb9
    by_cases e9_ : b9 = b
    · subst e9_
      simp (disch := omega) only [upd_at, upd_ne, p2_at, p2_ne]
      omega
    · simp (disch := omega) only [upd_at, upd_ne, p2_at, p2_ne]
      exact hh
  · simp (disch := omega) only [upd_at, upd_ne, p2_at, p2_ne] at hq9
    have hh := hi.p hq9
    by_cases e9_ : q9 = p
    · subst e9_
      simp (disch := omega) only [upd_at, upd_ne, p2_at, p2_ne, e1]
      omega
    · by_cases e25 : (G 25 q9).toInt.toNat = b
      · rw [e25] at hh
        simp (disch := omega) only [upd_at, upd_ne, p2_at, p2_ne, e25]
        omega
      · simp (disch := omega) only [upd_at, upd_ne, p2_at, p2_ne]
        exact hh
  · simp (disch := omega) only [upd_at, upd_ne, p2_at, p2_ne] at hk9 ⊢
    exact hi.k hk9
  · simp (disch := omega) only [upd_at, upd_ne, p2_at, p2_ne]
    exact hs
