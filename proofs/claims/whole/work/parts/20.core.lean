/-! THE MATHEMATICS, 1: numbers; a partial function's value, row by row; a garden's block G and the reference's row w; what joins them -/
abbrev Gd : Type := Nat → Nat → Int32
abbrev Rw : Type := Nat → Int32
theorem ti_add {a b : Int32} (h : -2147483648 ≤ a.toInt + b.toInt ∧ a.toInt + b.toInt < 2147483648) : (a + b).toInt = a.toInt + b.toInt := by
  rw [Int32.toInt_add]; exact Int.bmod_eq_of_le (by omega) (by omega)
theorem ti_sub {a b : Int32} (h : -2147483648 ≤ a.toInt - b.toInt ∧ a.toInt - b.toInt < 2147483648) : (a - b).toInt = a.toInt - b.toInt := by
  rw [Int32.toInt_sub]; exact Int.bmod_eq_of_le (by omega) (by omega)
theorem ti_mul {a b : Int32} (h : -2147483648 ≤ a.toInt * b.toInt ∧ a.toInt * b.toInt < 2147483648) : (a * b).toInt = a.toInt * b.toInt := by
  rw [Int32.toInt_mul]; exact Int.bmod_eq_of_le (by omega) (by omega)
theorem ti_div {a b : Int32} (ha : 0 ≤ a.toInt) (hb : 0 < b.toInt) : (a / b).toInt = a.toInt / b.toInt := by
  rw [Int32.toInt_div_of_ne_right _ _ (by intro e; subst e; exact absurd hb (by decide)), Int.tdiv_eq_ediv_of_nonneg ha]
theorem tv_add {a b : Int32} {x y : Int} (ha : a.toInt = x) (hb : b.toInt = y) (h : -2147483648 ≤ x + y ∧ x + y < 2147483648) : (a + b).toInt = x + y := by subst ha hb; exact ti_add h
theorem tv_sub {a b : Int32} {x y : Int} (ha : a.toInt = x) (hb : b.toInt = y) (h : -2147483648 ≤ x - y ∧ x - y < 2147483648) : (a - b).toInt = x - y := by subst ha hb; exact ti_sub h
theorem tv_mul {a b : Int32} {x y : Int} (ha : a.toInt = x) (hb : b.toInt = y) (h : -2147483648 ≤ x * y ∧ x * y < 2147483648) : (a * b).toInt = x * y := by subst ha hb; exact ti_mul h
theorem tv_div {a b : Int32} {x y : Int} (ha : a.toInt = x) (hb : b.toInt = y) (h : 0 ≤ x ∧ 0 < y) : (a / b).toInt = x / y := by subst ha hb; exact ti_div h.1 h.2
theorem ti_ext {a b : Int32} (h : a.toInt = b.toInt) : a = b := Int32.toInt_inj.mp h
theorem ti_ne {a b : Int32} (h : ¬ a.toInt = b.toInt) : ¬ a = b := fun e => h (by rw [e])
theorem ti_hi (a : Int32) : a.toInt < 2147483648 := a.toInt_lt
theorem ti_lo (a : Int32) : -2147483648 ≤ a.toInt := a.le_toInt
theorem ald_in {β : Type} {s : Nat → Int32} {n : Nat} {i : Int32} {f : Int32 → Option β} (h : 0 ≤ i.toInt ∧ i.toInt < n) : ald s n i f = f (s i.toInt.toNat) := by
  unfold ald
  rw [if_neg]
  · rfl
  · rintro (q | q)
    · rw [Int32.lt_iff_toInt_lt] at q; have : (0 : Int32).toInt = 0 := rfl; omega
    · rw [show i.toNatClampNeg = i.toInt.toNat from rfl] at q; omega
theorem alr_in {β : Type} {n : Nat} {i : Int32} {f : Nat → Option β} (h : 0 ≤ i.toInt ∧ i.toInt < n) : alr n i f = f i.toInt.toNat := by
  unfold alr
  rw [if_neg]
  · rfl
  · rintro (q | q)
    · rw [Int32.lt_iff_toInt_lt] at q; have : (0 : Int32).toInt = 0 := rfl; omega
    · rw [show i.toNatClampNeg = i.toInt.toNat from rfl] at q; omega
theorem ast_in {β : Type} {σ : Sig} {g c n : Nat} {i v : Int32} {f : Sig → Option β} (h : 0 ≤ i.toInt ∧ i.toInt < n) : ast σ g c n i v f = f (up σ g c i.toInt.toNat v) := by
  unfold ast
  rw [if_neg]
  · rfl
  · rintro (q | q)
    · rw [Int32.lt_iff_toInt_lt] at q; have : (0 : Int32).toInt = 0 := rfl; omega
    · rw [show i.toNatClampNeg = i.toInt.toNat from rfl] at q; omega
theorem nm_ap {α β : Type} (a : α) (f : α → β) : nm a f = f a := rfl
theorem bnd_ap {α β : Type} (a : α) (f : α → Option β) : bnd (some a) f = f a := rfl
theorem bns_ap {β : Type} (a : Int32) (s : Sig) (f : Int32 → Sig → Option β) : bns (some (a, s)) f = f a s := rfl
theorem bnx_ap0 (a : Int32) (s : Sig) (f : Int32 → Sig → Option Xe) : bnx (some (0, a, s)) f = f a s := rfl
theorem bnx_ap1 (a : Int32) (s : Sig) (f : Int32 → Sig → Option Xe) : bnx (some (1, a, s)) f = some (1, 0, s) := rfl
theorem bnx_ap2 (a : Int32) (s : Sig) (f : Int32 → Sig → Option Xe) : bnx (some (2, a, s)) f = some (2, 0, s) := rfl
theorem bnx_ap3 (a : Int32) (s : Sig) (f : Int32 → Sig → Option Xe) : bnx (some (3, a, s)) f = some (3, 0, s) := rfl
theorem bnx_ap4 (a : Int32) (s : Sig) (f : Int32 → Sig → Option Xe) : bnx (some (4, a, s)) f = some (4, 0, s) := rfl
theorem gz_0 {β : Type} (x : Option β) : gz 0 x = x := rfl
theorem gz_1 {β : Type} (x : Option β) : gz 1 x = x := rfl
theorem gz_ok {β : Type} {v : Int32} (h : v = 0 ∨ v = 1) (x : Option β) : gz v x = x := by
  rcases h with rfl | rfl <;> rfl
theorem dvd_ok {β : Type} {x y : Int32} (h : ¬ y = 0) (f : Int32 → Option β) : dvd x y f = f (x / y) := by unfold dvd; exact if_neg h
theorem rmd_ok {β : Type} {x y : Int32} (h : ¬ y = 0) (f : Int32 → Option β) : rmd x y f = f (x - x / y * y) := by unfold rmd; exact if_neg h
theorem dvd_96 {β : Type} (x : Int32) (f : Int32 → Option β) : dvd x 96 f = f (x / 96) := dvd_ok (by decide) f
theorem dvd_2 {β : Type} (x : Int32) (f : Int32 → Option β) : dvd x 2 f = f (x / 2) := dvd_ok (by decide) f
theorem dvd_10000 {β : Type} (x : Int32) (f : Int32 → Option β) : dvd x 10000 f = f (x / 10000) := dvd_ok (by decide) f
theorem rmd_96 {β : Type} (x : Int32) (f : Int32 → Option β) : rmd x 96 f = f (x - x / 96 * 96) := rmd_ok (by decide) f
theorem rmd_8 {β : Type} (x : Int32) (f : Int32 → Option β) : rmd x 8 f = f (x - x / 8 * 8) := rmd_ok (by decide) f
theorem narz_0 : vp_nar .boolean 0 = 0 := by decide +kernel
theorem narz_1 : vp_nar .boolean 1 = 1 := by decide +kernel
theorem narz_ok {v : Int32} (h : v = 0 ∨ v = 1) : vp_nar .boolean v = v := by
  rcases h with rfl | rfl
  · exact narz_0
  · exact narz_1
theorem i10 {c : Prop} [Decidable c] : ((if c then (1 : Int32) else 0) = 0) ↔ ¬ c := by split <;> simp_all
theorem i01 {c : Prop} [Decidable c] : ((if c then (0 : Int32) else 1) = 0) ↔ c := by split <;> simp_all
theorem i11 {c : Prop} [Decidable c] : ((if c then (1 : Int32) else 0) = 1) ↔ c := by split <;> simp_all
theorem i00 {c : Prop} [Decidable c] : ((if c then (0 : Int32) else 1) = 1) ↔ ¬ c := by split <;> simp_all
theorem e10 : ((1 : Int32) = 0) ↔ False := by decide
theorem e01 : ((0 : Int32) = 1) ↔ False := by decide
theorem e20 : ((2 : Int32) = 0) ↔ False := by decide
theorem e30 : ((3 : Int32) = 0) ↔ False := by decide
theorem e40 : ((4 : Int32) = 0) ↔ False := by decide
theorem e50 : ((5 : Int32) = 0) ↔ False := by decide
theorem e60 : ((6 : Int32) = 0) ↔ False := by decide
theorem e70 : ((7 : Int32) = 0) ↔ False := by decide
theorem e51 : ((5 : Int32) = 1) ↔ False := by decide
theorem upd_at (f : Nat → Int32) (k : Nat) (x : Int32) : upd f k x k = x := if_pos rfl
theorem upd_ne (f : Nat → Int32) {k j : Nat} (x : Int32) (h : ¬ j = k) : upd f k x j = f j := if_neg h
theorem upd_self (f : Nat → Int32) (k : Nat) : upd f k (f k) = f := by
  funext j
  unfold upd
  split
  · rename_i h; rw [h]
  · rfl
/-- a garden's block in a state; the reference's row in a state -/
def xg (σ : Sig) (n : Nat) (G : Gd) : Sig := fun g c => if g = n + 1 then G c else σ g c
def mr (τ : Sig) (w : Rw) : Sig := fun g c => if g = 0 ∧ c = 1 then w else τ g c
def p2 (G : Gd) (c j : Nat) (v : Int32) : Gd := fun c' => if c' = c then upd (G c) j v else G c'
def pr (G : Gd) (c : Nat) (f : Nat → Int32) : Gd := fun c' => if c' = c then f else G c'
theorem xg_at (σ : Sig) (n : Nat) (G : Gd) (c : Nat) : xg σ n G (n + 1) c = G c := by unfold xg; rw [if_pos rfl]
theorem xg_ne (σ : Sig) {n g : Nat} (G : Gd) (c : Nat) (h : ¬ g = n + 1) : xg σ n G g c = σ g c := by unfold xg; rw [if_neg h]
theorem xg_0 (σ : Sig) (n : Nat) (G : Gd) (c : Nat) : xg σ n G 0 c = σ 0 c := xg_ne σ G c (by omega)
theorem xg_self (σ : Sig) (n : Nat) : xg σ n (σ (n + 1)) = σ := by
  funext g c
  unfold xg
  split
  · rename_i h; rw [h]
  · rfl
theorem xg_sb (σ : Sig) (n : Nat) (G G' : Gd) : xg (xg σ n G) n G' = xg σ n G' := by
  funext g c
  unfold xg
  split <;> rfl
theorem mr_at (τ : Sig) (w : Rw) : mr τ w 0 1 = w := by unfold mr; exact if_pos ⟨rfl, rfl⟩
theorem mr_ne (τ : Sig) (w : Rw) {g c : Nat} (h : ¬ (g = 0 ∧ c = 1)) : mr τ w g c = τ g c := by unfold mr; exact if_neg h
theorem mr_self (τ : Sig) : mr τ (τ 0 1) = τ := by
  funext g c
  unfold mr
  split
  · rename_i h; rw [h.1, h.2]
  · rfl
theorem mr_sw (τ : Sig) (w w' : Rw) : mr (mr τ w) w' = mr τ w' := by
  funext g c
  unfold mr
  split <;> rfl
theorem up_xg (σ : Sig) (n : Nat) (G : Gd) (c j : Nat) (v : Int32) : up (xg σ n G) (n + 1) c j v = xg σ n (p2 G c j v) := by
  funext g c'
  unfold up xg p2
  by_cases h : g = n + 1
  · subst h; simp
  · simp [h]
theorem ur_xg (σ : Sig) (n : Nat) (G : Gd) (c : Nat) (f : Nat → Int32) : ur (xg σ n G) (n + 1) c f = xg σ n (pr G c f) := by
  funext g c'
  unfold ur xg pr
  by_cases h : g = n + 1
  · subst h; simp
  · simp [h]
theorem up_mr (τ : Sig) (w : Rw) (j : Nat) (v : Int32) : up (mr τ w) 0 1 j v = mr τ (upd w j v) := by
  funext g c'
  unfold up mr
  by_cases h : g = 0 ∧ c' = 1
  · obtain ⟨rfl, rfl⟩ := h; simp
  · simp [h]
theorem up_xg0 (σ : Sig) (n : Nat) (G : Gd) (c j : Nat) (v : Int32) : up (xg σ n G) 0 c j v = xg (up σ 0 c j v) n G := by
  funext g c'
  unfold up xg
  by_cases h : g = n + 1
  · subst h; simp
  · by_cases h2 : g = 0 ∧ c' = c
    · obtain ⟨rfl, rfl⟩ := h2; simp
    · simp [h, h2]
theorem up_mr0 (τ : Sig) (w : Rw) (j : Nat) (v : Int32) : up (mr τ w) 0 0 j v = mr (up τ 0 0 j v) w := by
  funext g c'
  unfold up mr
  by_cases h : g = 0 ∧ c' = 1
  · obtain ⟨rfl, rfl⟩ := h; simp
  · by_cases h2 : g = 0 ∧ c' = 0
    · obtain ⟨rfl, rfl⟩ := h2; simp
    · simp [h, h2]
theorem p2_at (G : Gd) (c j : Nat) (v : Int32) : p2 G c j v c = upd (G c) j v := if_pos rfl
theorem p2_ne (G : Gd) {c c' : Nat} (j : Nat) (v : Int32) (h : ¬ c' = c) : p2 G c j v c' = G c' := if_neg h
theorem p2_if (G : Gd) (c j : Nat) (v : Int32) (c' : Nat) : p2 G c j v c' = if c' = c then upd (G c) j v else G c' := rfl
theorem p2_self (G : Gd) (c j : Nat) : p2 G c j (G c j) = G := by
  funext c'
  unfold p2
  split
  · rename_i h; rw [h, upd_self]
  · rfl
theorem p2_same {G : Gd} {c j : Nat} {v : Int32} (h : v = G c j) : p2 G c j v = G := by rw [h, p2_self]
theorem pr_at (G : Gd) (c : Nat) (f : Nat → Int32) : pr G c f c = f := if_pos rfl
theorem pr_ne (G : Gd) {c c' : Nat} (f : Nat → Int32) (h : ¬ c' = c) : pr G c f c' = G c' := if_neg h
/-- sums -/
def sm (f : Nat → Int32) : Nat → Int
  | 0 => 0
  | k + 1 => sm f k + (f k).toInt
theorem sm_congr {f g : Nat → Int32} {n : Nat} (h : ∀ k, k < n → f k = g k) : sm f n = sm g n := by
  induction n with
  | zero => rfl
  | succ n ih => simp only [sm]; rw [ih (fun k hk => h k (by omega)), h n (by omega)]
theorem sm_upd_out {f : Nat → Int32} {n k : Nat} {x : Int32} (h : n ≤ k) : sm (upd f k x) n = sm f n := sm_congr (fun j hj => upd_ne _ _ (by omega))
theorem sm_upd {f : Nat → Int32} {n k : Nat} {x : Int32} (h : k < n) : sm (upd f k x) n = sm f n - (f k).toInt + x.toInt := by
  induction n with
  | zero => omega
  | succ n ih =>
    simp only [sm]
    by_cases e : k = n
    · subst e; rw [upd_at, sm_upd_out (Nat.le_refl _)]; omega
    · rw [ih (by omega), upd_ne _ _ (fun z => e z.symm)]; omega
theorem sm_nonneg {f : Nat → Int32} {n : Nat} (h : ∀ k, k < n → 0 ≤ (f k).toInt) : 0 ≤ sm f n := by
  induction n with
  | zero => exact Int.le_refl 0
  | succ n ih => simp only [sm]; have := ih (fun k hk => h k (by omega)); have := h n (by omega); omega
theorem sm_le {f : Nat → Int32} {n : Nat} {B : Int} (h : ∀ k, k < n → (f k).toInt ≤ B) : sm f n ≤ n * B := by
  induction n with
  | zero => simp [sm]
  | succ n ih =>
    simp only [sm]
    have h1 := ih (fun k hk => h k (by omega)); have h2 := h n (by omega)
    have h3 : ((n + 1 : Nat) : Int) * B = n * B + B := by rw [Int.natCast_add, Int.add_mul]; simp
    omega
theorem sm_zero {f : Nat → Int32} {n : Nat} (h : ∀ k, k < n → 0 ≤ (f k).toInt) (hz : sm f n = 0) : ∀ k, k < n → (f k).toInt = 0 := by
  induction n with
  | zero => intro k hk; omega
  | succ n ih =>
    simp only [sm] at hz
    have h0 := sm_nonneg (fun k hk => h k (by omega) : ∀ k, k < n → 0 ≤ (f k).toInt)
    have h1 := h n (by omega)
    intro k hk
    by_cases e : k = n
    · subst e; omega
    · exact ih (fun k hk => h k (by omega)) (by omega) k (by omega)
/-- the class's garden G and the reference's row w tell the same -/
def RG (G : Gd) (w : Rw) : Prop :=
  (w 0 = G 2 0 ∧ w 1 = G 3 0 ∧ w 2 = G 4 0 ∧ w 3 = G 5 0 ∧ w 4 = G 1 0 ∧ w 5 = G 2 1 ∧ w 6 = G 0 6 ∧ w 7 = G 1 1 ∧ w 8 = G 1 2 ∧ w 9 = G 6 0 - G 6 1 ∧ w 10 = G 6 1 ∧ w 11 = G 6 3 ∧ w 12 = G 6 4 ∧ w 13 = G 6 5 ∧ w 14 = G 6 2)
  ∧ (∀ i : Nat, (i : Int) < (G 2 0).toInt → w (15 + i) = G 7 i)
  ∧ (∀ b : Nat, (b : Int) < (G 3 0).toInt → w (20 + 7 * b + 0) = G 8 b ∧ w (20 + 7 * b + 1) = G 9 b ∧ w (20 + 7 * b + 2) = G 10 b ∧ w (20 + 7 * b + 3) = G 11 b ∧ w (20 + 7 * b + 4) = G 12 b ∧ w (20 + 7 * b + 5) = G 14 b ∧ w (20 + 7 * b + 6) = G 13 b)
  ∧ (∀ p : Nat, (p : Int) < (G 4 0).toInt → w (76 + 12 * p + 0) = G 15 p ∧ w (76 + 12 * p + 1) = G 16 p ∧ w (76 + 12 * p + 2) = G 17 p ∧ w (76 + 12 * p + 3) = G 18 p ∧ w (76 + 12 * p + 4) = G 19 p ∧ w (76 + 12 * p + 5) = G 20 p ∧ w (76 + 12 * p + 6) = G 21 p ∧ w (76 + 12 * p + 7) = G 22 p ∧ w (76 + 12 * p + 8) = G 23 p ∧ w (76 + 12 * p + 9) = G 24 p ∧ w (76 + 12 * p + 10) = G 25 p ∧ w (76 + 12 * p + 11) = G 26 p)
  ∧ (∀ k : Nat, (k : Int) < (G 5 0).toInt → w (436 + 2 * k + 0) = G 27 k ∧ w (436 + 2 * k + 1) = G 28 k)
/-- what holds of every garden -/
def Iv (G : Gd) : Prop :=
  (0 ≤ (G 2 0).toInt ∧ (G 2 0).toInt ≤ 5 ∧ 0 ≤ (G 3 0).toInt ∧ (G 3 0).toInt ≤ 8 ∧ 0 ≤ (G 4 0).toInt ∧ (G 4 0).toInt ≤ 30 ∧ 0 ≤ (G 5 0).toInt ∧ (G 5 0).toInt ≤ 50 ∧ 0 ≤ (G 1 0).toInt ∧ (G 1 0).toInt ≤ 9599 ∧ 0 ≤ (G 0 6).toInt ∧ (G 0 6).toInt ≤ 8 ∧ 1 ≤ (G 2 1).toInt ∧ (G 2 1).toInt ≤ 20)
  ∧ (∀ i : Nat, (i : Int) < (G 2 0).toInt → 1 ≤ (G 7 i).toInt ∧ (G 7 i).toInt ≤ 99)
  ∧ (∀ b : Nat, (b : Int) < (G 3 0).toInt → 1 ≤ (G 9 b).toInt ∧ (G 9 b).toInt ≤ 20 ∧ 0 ≤ (G 14 b).toInt ∧ (G 14 b).toInt ≤ 20 ∧ 0 ≤ (G 13 b).toInt ∧ (G 13 b).toInt ≤ 20 * (G 1 0).toInt + (G 14 b).toInt ∧ 0 ≤ (G 12 b).toInt ∧ (G 12 b).toInt ≤ 50)
  ∧ (∀ p : Nat, (p : Int) < (G 4 0).toInt → 0 ≤ (G 16 p).toInt ∧ (G 16 p).toInt ≤ 99 ∧ 1 ≤ (G 17 p).toInt ∧ (G 17 p).toInt ≤ 14 ∧ 0 ≤ (G 18 p).toInt ∧ (G 18 p).toInt ≤ 1 ∧ -1 ≤ (G 20 p).toInt ∧ (G 20 p).toInt < (G 5 0).toInt ∧ 0 ≤ (G 21 p).toInt ∧ (G 21 p).toInt ≤ 1 ∧ 0 ≤ (G 22 p).toInt ∧ (G 22 p).toInt < 16384 ∧ 0 ≤ (G 23 p).toInt ∧ ((G 22 p).toInt = 0 ↔ (G 23 p).toInt = 0) ∧ -1 ≤ (G 24 p).toInt ∧ (G 24 p).toInt ≤ (G 1 0).toInt ∧ -1 ≤ (G 25 p).toInt ∧ (G 25 p).toInt < (G 3 0).toInt ∧ (0 ≤ (G 24 p).toInt → 0 ≤ (G 25 p).toInt) ∧ 0 ≤ (G 19 p).toInt ∧ (G 19 p).toInt ≤ 6930 ∧ 0 ≤ (G 26 p).toInt ∧ (G 26 p).toInt ≤ 2030 ∧ ((G 24 p).toInt = (G 1 0).toInt → (G 26 p).toInt + 40 * (G 12 (G 25 p).toInt.toNat).toInt ≤ 2030))
  ∧ (∀ k : Nat, (k : Int) < (G 5 0).toInt → 0 ≤ (G 27 k).toInt ∧ (G 27 k).toInt < (G 4 0).toInt ∧ 0 ≤ (G 28 k).toInt ∧ (G 28 k).toInt ≤ 1)
  ∧ sm (G 23) (G 4 0).toInt.toNat = sm (G 13) (G 3 0).toInt.toNat
abbrev GP (G : Gd) (w : Rw) : Prop := RG G w ∧ Iv G
abbrev Bd (G : Gd) : Prop := (G 2 0).toInt ≤ 5 ∧ (G 3 0).toInt ≤ 8 ∧ (G 4 0).toInt ≤ 30 ∧ (G 5 0).toInt ≤ 50
theorem Iv.bd {G : Gd} (h : Iv G) : Bd G := by have := h.1; exact ⟨by omega, by omega, by omega, by omega⟩
