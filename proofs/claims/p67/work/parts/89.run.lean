/-! the script that began writes makes the garden -/
def pR9 (f : Nat → Nat) (rest : List Nat) : Nat → Nat → List Nat
  | _, 0 => rest
  | i, k + 1 => 32 :: (dgs (f i) ++ pR9 f rest (i + 1) k)
def bR9 (a b c d : Nat) (rest : List Nat) : List Nat := [98, 101, 100] ++ 32 :: (dgs a ++ 32 :: (dgs b ++ 32 :: (dgs c ++ 32 :: (dgs d ++ 59 :: rest))))
theorem pR_9 (f : Nat → Nat) (rest : List Nat) : ∀ k i, pT9 f i ++ pR9 f rest i k = pT9 f (i + k) ++ rest := by
  intro k
  induction k with
  | zero => intro i; rfl
  | succ k ih =>
    intro i
    rw [show i + (k + 1) = i + 1 + k by omega, ← ih (i + 1)]
    show pT9 f i ++ 32 :: (dgs (f i) ++ pR9 f rest (i + 1) k) = ((pT9 f i ++ [32]) ++ dgs (f i)) ++ pR9 f rest (i + 1) k
    simp only [List.append_assoc, List.cons_append, List.nil_append]
theorem txs_w : txs 14 = [103, 97, 114, 100, 101, 110] ∧ txs 15 = [98, 101, 100, 32] ∧ txs 16 = [112, 97, 115, 115, 32] := by decide +kernel
theorem bR_9 (tx : List Nat) (f g h k : Nat → Nat) (rest : List Nat) (n : Nat) : bT9 tx f g h k (n + 1) ++ rest = bT9 tx f g h k n ++ bR9 (f n) (g n) (h n) (k n) rest := by
  show ((((((((bT9 tx f g h k n ++ txs 15) ++ dgs (f n)) ++ [32]) ++ dgs (g n)) ++ [32]) ++ dgs (h n)) ++ [32]) ++ dgs (k n)) ++ [59] ++ rest = _
  rw [txs_w.2.1]
  unfold bR9
  simp only [List.append_assoc, List.cons_append, List.nil_append]
abbrev bd9 (L : Nat) (xs : Nat → Int32) (i : Nat) (rest : List Nat) : List Nat := bR9 (bA9 (uu9 L xs i) (sc9 L xs)) (bB9 (uu9 L xs i)) (bC9 (uu9 L xs i)) (bD9 (uu9 L xs i)) rest
theorem tx_r9 (L : Nat) (xs : Nat → Int32) : tx9 L xs = [103, 97, 114, 100, 101, 110] ++ pR9 (pr9 L xs) (59 :: bd9 L xs 0 (bd9 L xs 1 (bd9 L xs 2 ([112, 97, 115, 115] ++ 32 :: (dgs (tk9 L xs) ++ 59 :: []))))) 0 (sc9 L xs) := by
  have h := pR_9 (pr9 L xs) (59 :: bd9 L xs 0 (bd9 L xs 1 (bd9 L xs 2 ([112, 97, 115, 115] ++ 32 :: (dgs (tk9 L xs) ++ 59 :: []))))) (sc9 L xs) 0
  rw [Nat.zero_add] at h
  rw [← txs_w.1]
  show _ = pT9 (pr9 L xs) 0 ++ _
  rw [h]
  unfold tx9
  rw [txs_w.2.2]
  simp only [List.append_assoc]
  rw [bR_9, bR_9, bR_9]
  show (pT9 (pr9 L xs) (sc9 L xs) ++ [59]) ++ _ = _
  simp only [List.append_assoc, List.cons_append, List.nil_append]
/-- letters are bytes -/
def al9 (l : List Nat) : Prop := ∀ x ∈ l, x < 256
theorem al_app {a b : List Nat} (h1 : al9 a) (h2 : al9 b) : al9 (a ++ b) := fun x hx => (List.mem_append.mp hx).elim (h1 x) (h2 x)
theorem al_1 {c : Nat} (h : c < 256) : al9 [c] := fun x hx => by rw [List.mem_singleton.mp hx]; exact h
theorem al_dgs {x : Nat} (h : x < 100) : al9 (dgs x) := by
  unfold dgs
  split
  · exact al_1 (by omega)
  · exact al_app (a := [48 + x / 10]) (al_1 (by omega)) (al_1 (by omega))
theorem al_txs : al9 (txs 14) ∧ al9 (txs 15) ∧ al9 (txs 16) := by unfold al9; decide +kernel
theorem al_pT {f : Nat → Nat} (hf : ∀ i, f i < 100) : ∀ n, al9 (pT9 f n) := by
  intro n
  induction n with
  | zero => exact al_txs.1
  | succ n ih => exact al_app (al_app ih (al_1 (by decide))) (al_dgs (hf n))
theorem al_bT {tx : List Nat} {f g h k : Nat → Nat} (ht : al9 tx) (hh : ∀ i, f i < 100 ∧ g i < 100 ∧ h i < 100 ∧ k i < 100) : ∀ n, al9 (bT9 tx f g h k n) := by
  intro n
  induction n with
  | zero => exact ht
  | succ n ih => exact al_app (al_app (al_app (al_app (al_app (al_app (al_app (al_app (al_app ih al_txs.2.1) (al_dgs (hh n).1)) (al_1 (by decide))) (al_dgs (hh n).2.1)) (al_1 (by decide))) (al_dgs (hh n).2.2.1)) (al_1 (by decide))) (al_dgs (hh n).2.2.2)) (al_1 (by decide))
theorem t9_in (L : Nat) (xs : Nat → Int32) : ∀ i, t9 (tx9 L xs) i < 256 := by
  have h : al9 (tx9 L xs) := by
    refine al_app (al_app (al_app (al_bT (al_app (al_pT (fun i => Nat.lt_of_le_of_lt (pr9_in L xs i).2.2 (by decide)) _) (al_1 (by decide))) (fun i => ?_) 3) al_txs.2.2) (al_dgs (Nat.lt_of_le_of_lt (tk9_in L xs).2.2 (by decide)))) (al_1 (by decide))
    obtain ⟨-, S1, S4⟩ := sc9_in L xs
    obtain ⟨⟨-, a⟩, ⟨-, b, b'⟩, ⟨-, c⟩, ⟨-, d, d'⟩⟩ := bed9 (and31 (cellv L xs (5 + i))) S1 S4
    exact ⟨Nat.lt_of_lt_of_le a (by omega), Nat.lt_of_le_of_lt b' (by decide), Nat.lt_of_le_of_lt c (by decide), Nat.lt_of_le_of_lt d' (by decide)⟩
  intro i
  unfold t9
  split
  · rename_i hi
    have : (tx9 L xs).getD i 0 = (tx9 L xs)[i] := by simp [List.getD, hi]
    rw [this]
    exact h _ (List.getElem_mem hi)
  · decide
/-- a garden with S scents and N beds, at the start of time -/
def GD (S N : Nat) (G : Gd) : Prop := Iv G ∧ Jb G ∧ (G 2 0).toInt = S ∧ (G 3 0).toInt = N ∧ (G 1 0).toInt = 0
theorem nIt {x : Nat} (h : x < 1000) : (nI x).toInt = x := nI_toInt (by omega)
theorem pr_67 {tx : List Nat} {L : Nat} {σ : Sig} (ht : ∀ i, t9 tx i < 256) (hL : tx.length ≤ L) (hX : TX (T9 tx) L σ) (f : Nat → Nat) (hf : ∀ i, 1 ≤ f i ∧ f i ≤ 60) (rest : List Nat) : ∀ k i p fu (x1 : Int32) (G : Gd), i + k ≤ 4 → SF tx p (pR9 f (59 :: rest) i k) → GD i 0 G → x1.toInt = i → k < fu → ∃ p' G', f9_readGarden_b31 fu x1 (XS (T9 tx) L σ p G) = some (XS (T9 tx) L σ p' G') ∧ SF tx p' rest ∧ GD (i + k) 0 G' := by
  intro k
  induction k with
  | zero =>
    intro i p fu x1 G hi hs hG hx hfu
    have hp := hs.len
    obtain ⟨k2, k3⟩ := tok_semi ht hL (show SF tx p (59 :: rest) from hs)
    obtain ⟨fu, rfl⟩ : ∃ n, fu = n + 1 := ⟨fu - 1, by omega⟩
    exact ⟨p + 1, G, x_done hX G (by omega) (by omega) k2 k3, SF.adv1 (show SF tx p (59 :: rest) from hs), hG⟩
  | succ k ih =>
    intro i p fu x1 G hi hs hG hx hfu
    have hp := hs.len
    have hs : SF tx p (32 :: (dgs (f i) ++ pR9 f (59 :: rest) (i + 1) k)) := hs
    obtain ⟨c, l, hc, hcl⟩ : ∃ c l, (c = 32 ∨ c = 59) ∧ pR9 f (59 :: rest) (i + 1) k = c :: l := by
      cases k with
      | zero => exact ⟨59, rest, Or.inr rfl, rfl⟩
      | succ k => exact ⟨32, _, Or.inl rfl, rfl⟩
    have hfi := hf i
    rw [hcl] at hs
    obtain ⟨k1, k2, k3⟩ := tok_num ht hL hs (by omega) hc
    have hn := hs.adv1.adv
    rw [← hcl] at hn
    obtain ⟨fu, rfl⟩ : ∃ n, fu = n + 1 := ⟨fu - 1, by omega⟩
    obtain ⟨i1, i2, i3, i4, i5⟩ := hG
    have hr := x_price1 hX G (N := i) (by omega) i3 (by omega) k1 k2 k3 (by rw [nIt (by omega)]; omega)
    have e2 : (Gsc G i (nI (f i)) 2 0) = G 2 0 + 1 := rfl
    have e2' : (G 2 0 + 1).toInt = i + 1 := tv_add i3 rfl (by omega)
    have ex1 : (x1 + 1).toInt = i + 1 := tv_add hx (show (1 : Int32).toInt = 1 from rfl) (by omega)
    obtain ⟨p', G', q1, q2, q3⟩ := ih (i + 1) _ fu (x1 + 1) (Gsc G i (nI (f i))) (by omega) hn ⟨iv_sc i1 i3 (by omega) (by rw [nIt (by omega)]; omega), jb_sc i2 i (nI (f i)), by rw [e2, e2']; rfl, i4, i5⟩ (by rw [ex1]; rfl) (by omega)
    refine ⟨p', G', ?_, q2, by rw [show i + (k + 1) = i + 1 + k by omega]; exact q3⟩
    rw [x_more hX G (by omega) k1 hr]
    exact q1
theorem w_bed : [98, 101, 100].map nI = strB 2 ∧ [112, 97, 115, 115].map nI = strB 12 ∧ [103, 97, 114, 100, 101, 110].map nI = strB 1 := by decide +kernel
theorem bed_67 {tx : List Nat} {L : Nat} {σ : Sig} (ht : ∀ i, t9 tx i < 256) (hL : tx.length ≤ L) (hX : TX (T9 tx) L σ) {S N p a b c d : Nat} {rest : List Nat} {G : Gd} (hN : N < 8) (hS : S ≤ 4) (ha : a < S) (hb : 1 ≤ b ∧ b ≤ 3) (hc : c ≤ 2) (hd : 2 ≤ d ∧ d ≤ 9) (hs : SF tx p (bR9 a b c d rest)) (hG : GD S N G) : ∃ p' G', f9_readCommand (XS (T9 tx) L σ p G) = some (XS (T9 tx) L σ p' G') ∧ tK (T9 tx) L p = 0 ∧ SF tx p' rest ∧ GD S (N + 1) G' := by
  obtain ⟨i1, i2, i3, i4, i5⟩ := hG
  have hp := hs.len
  unfold bR9 at hs hp
  obtain ⟨t1, t2⟩ := tok_word ht hL hs (by decide) (by decide)
  rw [w_bed.1] at t2
  have s1 := hs.adv
  have p1 := s1.len
  obtain ⟨a1, a2, a3⟩ := tok_num ht hL s1 (by omega) (Or.inl rfl)
  have s2 := s1.adv1.adv
  have p2 := s2.len
  obtain ⟨b1, b2, b3⟩ := tok_num ht hL s2 (by omega) (Or.inl rfl)
  have s3 := s2.adv1.adv
  have p3 := s3.len
  obtain ⟨c1, c2, c3⟩ := tok_num ht hL s3 (by omega) (Or.inl rfl)
  have s4 := s3.adv1.adv
  have p4 := s4.len
  obtain ⟨d1, d2, d3⟩ := tok_num ht hL s4 (by omega) (Or.inr rfl)
  have s5 := s4.adv1.adv
  have p5 := s5.len
  obtain ⟨e1, e2⟩ := tok_semi ht hL s5
  have ra := nIt (x := a) (by omega)
  have rb := nIt (x := b) (by omega)
  have rc := nIt (x := c) (by omega)
  have rd := nIt (x := d) (by omega)
  have z := xr_bed hX G (N := N) i4 hN ⟨by omega, by omega, by omega, by omega, by omega, by omega⟩ t2 t1 a1 a2 a3 b1 b2 b3 c1 c2 c3 d1 d2 d3 e1 e2 ⟨by omega, by omega⟩ ⟨by omega, by omega⟩ ⟨by omega, by omega⟩ ⟨by omega, by omega⟩
  have e3 : Gbed G N (nI a) (nI b) (nI c) (nI d) 3 0 = G 3 0 + 1 := rfl
  have e3' : (G 3 0 + 1).toInt = N + 1 := tv_add i4 rfl (by omega)
  exact ⟨_, _, z, isw_k t2, s5.adv1, iv_bed i1 i4 hN ⟨by omega, by omega⟩, jb_bed i2 i4 hN (by omega), i3, by rw [e3, e3']; rfl, i5⟩
theorem run_67 (L9 : Nat) (xs : Nat → Int32) {σ : Sig} {L : Nat} (ht : ∀ i, t9 (tx9 L9 xs) i < 256) (hL : (tx9 L9 xs).length ≤ L) (hX : TX (T9 (tx9 L9 xs)) L σ) : ∃ p' G', f9_execute σ = some (XS (T9 (tx9 L9 xs)) L σ p' G') ∧ Gok 0 G' ∧ G' 4 0 = 0 := by
  obtain ⟨-, S1, S4⟩ := sc9_in L9 xs
  have hfp : ∀ i, 1 ≤ pr9 L9 xs i ∧ pr9 L9 xs i ≤ 60 := fun i => (pr9_in L9 xs i).2
  obtain ⟨-, q1, q2⟩ := tk9_in L9 xs
  have hbd : ∀ i, bA9 (uu9 L9 xs i) (sc9 L9 xs) < sc9 L9 xs ∧ (1 ≤ bB9 (uu9 L9 xs i) ∧ bB9 (uu9 L9 xs i) ≤ 3) ∧ bC9 (uu9 L9 xs i) ≤ 2 ∧ (2 ≤ bD9 (uu9 L9 xs i) ∧ bD9 (uu9 L9 xs i) ≤ 9) := fun i => by
    obtain ⟨⟨-, a⟩, ⟨-, b⟩, ⟨-, c⟩, ⟨-, d⟩⟩ := bed9 (and31 (cellv L9 xs (5 + i))) S1 S4
    exact ⟨a, b, c, d⟩
  have htx := tx_r9 L9 xs
  unfold bd9 at htx
  generalize tx9 L9 xs = tx at *
  generalize sc9 L9 xs = S at *
  generalize pr9 L9 xs = f at *
  generalize tk9 L9 xs = tk at *
  have s0 : SF tx 0 ([103, 97, 114, 100, 101, 110] ++ pR9 f (59 :: bR9 (bA9 (uu9 L9 xs 0) S) (bB9 (uu9 L9 xs 0)) (bC9 (uu9 L9 xs 0)) (bD9 (uu9 L9 xs 0)) (bR9 (bA9 (uu9 L9 xs 1) S) (bB9 (uu9 L9 xs 1)) (bC9 (uu9 L9 xs 1)) (bD9 (uu9 L9 xs 1)) (bR9 (bA9 (uu9 L9 xs 2) S) (bB9 (uu9 L9 xs 2)) (bC9 (uu9 L9 xs 2)) (bD9 (uu9 L9 xs 2)) ([112, 97, 115, 115] ++ 32 :: (dgs tk ++ 59 :: []))))) 0 S) := ⟨[], htx, rfl⟩
  generalize hrest : bR9 (bA9 (uu9 L9 xs 0) S) (bB9 (uu9 L9 xs 0)) (bC9 (uu9 L9 xs 0)) (bD9 (uu9 L9 xs 0)) (bR9 (bA9 (uu9 L9 xs 1) S) (bB9 (uu9 L9 xs 1)) (bC9 (uu9 L9 xs 1)) (bD9 (uu9 L9 xs 1)) (bR9 (bA9 (uu9 L9 xs 2) S) (bB9 (uu9 L9 xs 2)) (bC9 (uu9 L9 xs 2)) (bD9 (uu9 L9 xs 2)) ([112, 97, 115, 115] ++ 32 :: (dgs tk ++ 59 :: [])))) = rest at s0
  obtain ⟨S', rfl⟩ : ∃ n, S = n + 1 := ⟨S - 1, by omega⟩
  have s0 : SF tx 0 ([103, 97, 114, 100, 101, 110] ++ 32 :: (dgs (f 0) ++ pR9 f (59 :: rest) 1 S')) := s0
  obtain ⟨t1, t2⟩ := tok_word ht hL s0 (by decide) (by decide)
  rw [w_bed.2.2] at t2
  have s1 := s0.adv
  have n1 := s1.len
  obtain ⟨c, l, hc, hcl⟩ : ∃ c l, (c = 32 ∨ c = 59) ∧ pR9 f (59 :: rest) 1 S' = c :: l := by
    cases S' with
    | zero => exact ⟨59, rest, Or.inr rfl, rfl⟩
    | succ k => exact ⟨32, _, Or.inl rfl, rfl⟩
  have hfi := hfp 0
  have s1c := s1
  rw [hcl] at s1c
  obtain ⟨k1, k2, k3⟩ := tok_num ht hL s1c (by omega) hc
  have s2 := s1.adv1.adv
  have g0 : GD 0 0 (Grs (σ 11)) := ⟨iv_rs _, jb_rs _, rfl, rfl, rfl⟩
  have y1 := x_price1 hX (Grs (σ 11)) (N := 0) (by omega) g0.2.2.1 (by decide) k1 k2 k3 (by rw [nIt (by omega)]; omega)
  have G1 : GD 1 0 (Gsc (Grs (σ 11)) 0 (nI (f 0))) := ⟨iv_sc g0.1 g0.2.2.1 (by decide) (by rw [nIt (by omega)]; omega), jb_sc g0.2.1 0 _, rfl, rfl, rfl⟩
  obtain ⟨pg, Gg, r1, r2, r3⟩ := pr_67 ht hL hX f hfp rest S' 1 _ FU 1 _ (by omega) s2 G1 rfl (by unfold FU; omega)
  rw [show 1 + S' = S' + 1 by omega] at r3
  subst hrest
  obtain ⟨b0, b1, b2, b3⟩ := hbd 0
  obtain ⟨p2, G2, u1, u2, u3, u4⟩ := bed_67 ht hL hX (by decide) (by omega) b0 b1 b2 b3 r2 r3
  obtain ⟨b0, b1, b2, b3⟩ := hbd 1
  obtain ⟨p3, G3, v1, v2, v3, v4⟩ := bed_67 ht hL hX (by decide) (by omega) b0 b1 b2 b3 u3 u4
  obtain ⟨b0, b1, b2, b3⟩ := hbd 2
  obtain ⟨p4, G4, w1, w2, w3, w4⟩ := bed_67 ht hL hX (by decide) (by omega) b0 b1 b2 b3 v3 v4
  obtain ⟨i1, i2, i3, i4, i5⟩ := w4
  have m0 := w3.len
  obtain ⟨a1, a2⟩ := tok_word ht hL w3 (by decide) (by decide)
  rw [w_bed.2.1] at a2
  have w5 := w3.adv
  have m1 := w5.len
  obtain ⟨d1, d2, d3⟩ := tok_num ht hL w5 (by omega) (Or.inr rfl)
  have w6 := w5.adv1.adv
  have m2 := w6.len
  obtain ⟨f1, f2⟩ := tok_semi ht hL w6
  have etk := nIt (x := tk) (by omega)
  have z := xr_pass hX G4 i1 ⟨by omega, by omega, by omega⟩ a2 a1 d1 d2 d3 f1 f2 ⟨by omega, by omega⟩ (by omega)
  have w7 := w6.adv1
  have fin := tok_end ht hL w7
  have i11 : Iv (Gtk G4 (nI tk)) := iv_tk i1 ⟨by omega, by omega⟩
  have hj := jv_tk i1 (jb_jv i2 (by omega)) (nI tk)
  have e1 : Gtk G4 (nI tk) 1 0 = G4 1 0 + nI tk := by unfold Gtk; rw [fr_at1, upd_at]
  have e6 : Gtk G4 (nI tk) 6 = G4 6 := fr_ne _ _ _ _ (by decide)
  have e4 : Gtk G4 (nI tk) 4 = G4 4 := fr_ne _ _ _ _ (by decide)
  have et : (G4 1 0 + nI tk).toInt = 0 + tk := tv_add i5 etk (by omega)
  have hkb : Kb 0 (Gtk G4 (nI tk)) := by
    unfold Kb
    rw [e1, e6, et, i2.2.2.2.1, i2.2.2.2.2.1]
    refine ⟨by decide, by decide, by decide, by decide, by omega⟩
  refine ⟨p4 + [112, 97, 115, 115].length + 1 + (dgs tk).length + 1, Gtk G4 (nI tk), ?_, ⟨i11, hj, hkb⟩, by rw [e4]; exact i2.1⟩
  have ex0' : up (up σ 0 3 2 0) 0 3 3 (-1) = XB σ (σ 0 4 2) (σ 0 4 3) (σ 0 4 4) 0 (-1) := by
    have h1 := XB_u32 σ (σ 0 4 2) (σ 0 4 3) (σ 0 4 4) (σ 0 3 2) (σ 0 3 3) 0
    have h2 := XB_u33 σ (σ 0 4 2) (σ 0 4 3) (σ 0 4 4) 0 (σ 0 3 3) (-1)
    rw [XB_self] at h1
    rw [h1, h2]
  have er : f4_reset 10 σ = some (xg σ 10 (Grs (σ 11))) := by
    have h := x_reset σ 10 (σ (10 + 1))
    rw [xg_self] at h
    exact h
  have x1 : f6_readNext (xg (XB σ (σ 0 4 2) (σ 0 4 3) 0 0 (-1)) 10 (Grs (σ 11))) = some (XS (T9 tx) L σ 0 (Grs (σ 11))) := x_read hX _ _ _ _ _ (Nat.zero_le _)
  have x2 : f6_readNext (XS (T9 tx) L σ 0 (Grs (σ 11))) = some (XS (T9 tx) L σ (0 + [103, 97, 114, 100, 101, 110].length) (Grs (σ 11))) := by
    have h := x_next hX (Grs (σ 11)) (p := 0) (Nat.zero_le _) (-1)
    rw [t1] at h
    exact h
  have gar : f9_readGarden (XS (T9 tx) L σ 0 (Grs (σ 11))) = some (XS (T9 tx) L σ pg Gg) := by
    unfold f9_readGarden
    rw [x_isWord hX (Grs (σ 11)) (Nat.zero_le _) _ _ (by decide)]
    simp only [bnd_eq, i10, t2, not_true_eq_false, ↓reduceIte, e10]
    rw [x2]
    simp only [bnd_eq]
    rw [y1]
    simp only [bnd_eq]
    exact r1
  have run : f9_execute_b30 FU 0 (XS (T9 tx) L σ pg Gg) = some (XS (T9 tx) L σ (p4 + [112, 97, 115, 115].length + 1 + (dgs tk).length + 1) (Gtk G4 (nI tk))) := by
    show f9_execute_b30 (995 + 1 + 1 + 1 + 1 + 1) (Int32.ofNat 0) (XS (T9 tx) L σ pg Gg) = _
    rw [xstep hX _ (by decide) u2 u1, xstep hX _ (by decide) v2 v1, xstep hX _ (by decide) w2 w1, xstep hX _ (by decide) (isw_k a2) z, xstop hX _ fin]
  unfold f9_execute f6_readFirst
  rw [er]
  simp only [bnd_eq, nm_eq, up_xg0, ex0', XB_u44, x1, gar]
  exact run
/-- what began does -/
theorem began_67 (L9 : Nat) (xs : Nat → Int32) {σ : Sig} {G : Gd} (hs : HS σ []) (hG : Gok 0 G) (h0 : σ 0 4 1 = 0) : sg9 (tx9 L9 xs) (xg σ 8 G) 0 = xg σ 8 G ∧ (∀ j, j < nc9 L9 xs → ∃ r, f11_append (wf9 (chr9 (tx9 L9 xs) (20 * j)) 20 0) (wf9 (chr9 (tx9 L9 xs) (20 * j)) 20 1) (wf9 (chr9 (tx9 L9 xs) (20 * j)) 20 2) (wf9 (chr9 (tx9 L9 xs) (20 * j)) 20 3) (wf9 (chr9 (tx9 L9 xs) (20 * j)) 20 4) (sg9 (tx9 L9 xs) (xg σ 8 G) j) = some (r, sg9 (tx9 L9 xs) (xg σ 8 G) (j + 1))) ∧ ∃ σ', f11_runScript (sg9 (tx9 L9 xs) (xg σ 8 G) (nc9 L9 xs)) = some (0, σ') ∧ ∃ σ2 G2, σ' = xg σ2 8 G2 ∧ HS σ2 [] ∧ Gok 0 G2 := by
  have hlen := tx9_len L9 xs
  have ht : ∀ i, t9 (tx9 L9 xs) i < 256 := t9_in L9 xs
  have hn : (tx9 L9 xs).length ≤ 20 * nc9 L9 xs ∧ nc9 L9 xs ≤ 4 := by unfold nc9; omega
  obtain ⟨⟨a1, a2⟩, a3⟩ := sg_9 (σ := xg σ 8 G) ht (by rw [xg_0]; exact h0) (nc9 L9 xs) (by omega)
  refine ⟨rfl, a3, ?_⟩
  generalize sg9 (tx9 L9 xs) (xg σ 8 G) (nc9 L9 xs) = R at a1 a2
  have hX : TX (T9 (tx9 L9 xs)) (20 * nc9 L9 xs) R := tx_9 ht (by omega) a1
  obtain ⟨p', Gn, e1, g1, g2⟩ := run_67 L9 xs ht hn.1 hX
  obtain ⟨f1, f2, f3, f4, f5⟩ := end_x R Gn (Int32.ofNat (tK (T9 (tx9 L9 xs)) (20 * nc9 L9 xs) p')) (Int32.ofNat (tA (T9 (tx9 L9 xs)) (20 * nc9 L9 xs) p')) (Int32.ofNat (tE (T9 (tx9 L9 xs)) (20 * nc9 L9 xs) p')) 0 (-1)
  unfold f11_runScript
  rw [e1]
  simp only [bnd_eq, nm_eq]
  generalize up (XS (T9 (tx9 L9 xs)) (20 * nc9 L9 xs) R p' Gn) 0 4 1 0 = S at f1 f2 f3 f4 f5 ⊢
  rw [f2, if_pos rfl]
  have hb : ∀ g c, ¬ (g = 0 ∧ (c = 3 ∨ c = 4 ∨ c = 5)) → ¬ g = 11 → S g c = xg σ 8 G g c := fun g c h h11 => by
    rw [f1 g c (by omega) h11, a2 g c (by omega)]
  have s9 : S 9 = G := funext fun c => by rw [hb 9 c (by omega) (by omega)]; exact xg_at σ 8 G c
  have hS : HS S [] := by
    obtain ⟨c, x, h1, h2, h3, h4, h5, h6⟩ := hs
    refine ⟨c, x, by rw [hb 0 1 (by omega) (by omega), xg_0]; exact h1, by rw [hb 0 1 (by omega) (by omega), xg_0]; exact h2, h3, h4, h5, fun i K hK => by cases hK⟩
  obtain ⟨s1, q1, q2, q3⟩ := rem_11 hS hG.1
  rw [← s9, show xg S 8 (S 9) = S from xg_self S 8] at q1
  rw [q1]
  simp only [bnd_eq]
  obtain ⟨H', q4, ag⟩ := x_copy (σ := s1) (n := 8) (n1 := 10) (G := Gn) (H := S 9) (by decide) (by rw [show s1 (10 + 1) = s1 11 from rfl, q3]; exact f5) g1.1
  rw [q4]
  simp only [bnd_eq, nm_eq]
  have e4 : xg s1 8 H' (8 + 1) 4 0 = 0 := by
    rw [xg_at, ag.s2]
    exact g2
  rw [e4]
  exact ⟨_, rfl, s1, H', rfl, q2, g1.ag ag⟩
