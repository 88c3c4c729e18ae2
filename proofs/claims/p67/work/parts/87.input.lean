/-! the input that began writes -/
def ex9 (x : Int32) (k : Nat) : Int8 := ((x.toUInt32 >>> ((nI k).toUInt32 &&& Int32.toUInt32 31)).toInt32).toInt8
theorem ex_or (x y : Int32) (k : Nat) : ex9 (x ||| y) k = ex9 x k ||| ex9 y k := by
  unfold ex9
  generalize (nI k).toUInt32 &&& Int32.toUInt32 31 = n
  apply Int8.toBitVec_inj.mp
  show BitVec.signExtend 8 ((x.toUInt32.toBitVec ||| y.toUInt32.toBitVec) >>> (n.mod 32).toBitVec) = BitVec.signExtend 8 (x.toUInt32.toBitVec >>> (n.mod 32).toBitVec) ||| BitVec.signExtend 8 (y.toUInt32.toBitVec >>> (n.mod 32).toBitVec)
  rw [BitVec.ushiftRight_eq', BitVec.ushiftRight_eq', BitVec.ushiftRight_eq', BitVec.ushiftRight_or_distrib, BitVec.signExtend_eq_setWidth_of_le _ (by decide), BitVec.signExtend_eq_setWidth_of_le _ (by decide), BitVec.signExtend_eq_setWidth_of_le _ (by decide), BitVec.setWidth_or]
theorem ex_sh : ∀ c : Fin 256, ∀ s : Fin 4, ∀ k : Fin 4, ex9 (nI c.1 <<< (nI (8 * s.1) &&& 31)) (8 * k.1) = if s.1 = k.1 then (nI c.1).toInt8 else 0 := by decide +kernel
theorem ex_0 : ∀ k : Fin 4, ex9 0 (8 * k.1) = 0 := by decide +kernel
def pk4 (a b c d : Nat) : Int32 := (((0 ||| (nI a <<< (nI 24 &&& 31))) ||| (nI b <<< (nI 16 &&& 31))) ||| (nI c <<< (nI 8 &&& 31))) ||| (nI d <<< (nI 0 &&& 31))
theorem or8_0 (x : Int8) : x ||| 0 = x := by apply Int8.toBitVec_inj.mp; show x.toBitVec ||| 0#8 = x.toBitVec; simp
theorem or8_0' (x : Int8) : 0 ||| x = x := by apply Int8.toBitVec_inj.mp; show 0#8 ||| x.toBitVec = x.toBitVec; simp
theorem ex_pk {a b c d : Nat} (ha : a < 256) (hb : b < 256) (hc : c < 256) (hd : d < 256) : ex9 (pk4 a b c d) 24 = (nI a).toInt8 ∧ ex9 (pk4 a b c d) 16 = (nI b).toInt8 ∧ ex9 (pk4 a b c d) 8 = (nI c).toInt8 ∧ ex9 (pk4 a b c d) 0 = (nI d).toInt8 := by
  have A : ∀ k : Fin 4, ex9 (nI a <<< (nI 24 &&& 31)) (8 * k.1) = if 3 = k.1 then (nI a).toInt8 else 0 := fun k => ex_sh ⟨a, ha⟩ 3 k
  have B : ∀ k : Fin 4, ex9 (nI b <<< (nI 16 &&& 31)) (8 * k.1) = if 2 = k.1 then (nI b).toInt8 else 0 := fun k => ex_sh ⟨b, hb⟩ 2 k
  have C : ∀ k : Fin 4, ex9 (nI c <<< (nI 8 &&& 31)) (8 * k.1) = if 1 = k.1 then (nI c).toInt8 else 0 := fun k => ex_sh ⟨c, hc⟩ 1 k
  have D : ∀ k : Fin 4, ex9 (nI d <<< (nI 0 &&& 31)) (8 * k.1) = if 0 = k.1 then (nI d).toInt8 else 0 := fun k => ex_sh ⟨d, hd⟩ 0 k
  have Z := ex_0
  have E : ∀ k : Fin 4, ex9 (pk4 a b c d) (8 * k.1) = (((0 ||| if 3 = k.1 then (nI a).toInt8 else 0) ||| if 2 = k.1 then (nI b).toInt8 else 0) ||| if 1 = k.1 then (nI c).toInt8 else 0) ||| if 0 = k.1 then (nI d).toInt8 else 0 := fun k => by
    unfold pk4
    rw [ex_or, ex_or, ex_or, ex_or, A k, B k, C k, D k, Z k]
  refine ⟨?_, ?_, ?_, ?_⟩
  · have h := E 3
    rw [if_pos (by decide), if_neg (by decide), if_neg (by decide), if_neg (by decide)] at h
    simp only [or8_0, or8_0'] at h
    exact h
  · have h := E 2
    rw [if_neg (by decide), if_pos (by decide), if_neg (by decide), if_neg (by decide)] at h
    simp only [or8_0, or8_0'] at h
    exact h
  · have h := E 1
    rw [if_neg (by decide), if_neg (by decide), if_pos (by decide), if_neg (by decide)] at h
    simp only [or8_0, or8_0'] at h
    exact h
  · have h := E 0
    rw [if_neg (by decide), if_neg (by decide), if_neg (by decide), if_pos (by decide)] at h
    simp only [or8_0, or8_0'] at h
    exact h
theorem wf_pk (c : Nat → Nat) : wf9 c 20 0 = pk4 (c 0) (c 1) (c 2) (c 3) ∧ wf9 c 20 1 = pk4 (c 4) (c 5) (c 6) (c 7) ∧ wf9 c 20 2 = pk4 (c 8) (c 9) (c 10) (c 11) ∧ wf9 c 20 3 = pk4 (c 12) (c 13) (c 14) (c 15) ∧ wf9 c 20 4 = pk4 (c 16) (c 17) (c 18) (c 19) := by
  refine ⟨?_, ?_, ?_, ?_, ?_⟩ <;> simp [wf9, upd, pk4]
/-- a letter as a byte -/
def vb9 (c : Nat) : Int32 := vp_nar .byte (nI c).toInt8.toInt32
/-- the input holds q letters -/
def IN9 (σ : Sig) (t : Nat → Nat) (q : Nat) : Prop := σ 0 4 1 = nI q ∧ ∀ i, i < q → σ 0 5 i = vb9 (t i)
def KP9 (σ σ' : Sig) : Prop := ∀ g c, ¬ (g = 0 ∧ (c = 4 ∨ c = 5)) → σ' g c = σ g c
theorem KP9.tr {a b c : Sig} (h1 : KP9 a b) (h2 : KP9 b c) : KP9 a c := fun g k h => (h2 g k h).trans (h1 g k h)
theorem add_1 {σ : Sig} {t : Nat → Nat} {q k fu : Nat} {x : Int32} (h : IN9 σ t q) (hq : q < 500) (hk : k < 25) (hx : ex9 x k = (nI (t q)).toInt8) : ∃ σ', f6_addWord_b3 (fu + 1) x (nI k) σ = f6_addWord_b3 fu x (nI k + (-8)) σ' ∧ IN9 σ' t (q + 1) ∧ KP9 σ σ' := by
  refine ⟨up (up σ 0 5 q (vb9 (t q))) 0 4 1 (nI (q + 1)), ?_, ⟨?_, fun i hi => ?_⟩, fun g c hgc => ?_⟩
  · rw [f6_addWord_b3, if_neg (nI_pos (by omega))]
    simp only [nm_eq, h.1]
    rw [if_neg (show ¬ (500 : Int32) ≤ nI q from nI_ge (b := 500) hq (by decide)), ast_in (by rw [nI_toInt (by omega)]; omega), nI_toInt (by omega), Int.toNat_natCast]
    have e : vp_nar .byte ((x.toUInt32 >>> ((nI k).toUInt32 &&& Int32.toUInt32 31)).toInt32).toInt8.toInt32 = vb9 (t q) := by
      show vp_nar .byte (ex9 x k).toInt32 = _
      rw [hx]
      rfl
    rw [e]
    simp only [up_ne _ _ _ (show ¬ (0 = 0 ∧ 4 = 5) by decide), h.1, nI_1]
  · rw [up_self, upd_at]
  · rw [up_ne _ _ _ (by decide), up_self]
    by_cases e : i = q
    · rw [e, upd_at]
    · rw [upd_ne _ _ e]
      exact h.2 i (by omega)
  · rw [up_ne _ _ _ (by omega), up_ne _ _ _ (by omega)]
theorem add_4 {σ : Sig} {t : Nat → Nat} {q : Nat} {x : Int32} (ht : ∀ i, t i < 256) (h : IN9 σ t q) (hq : q + 4 ≤ 500) (hx : x = pk4 (t q) (t (q + 1)) (t (q + 2)) (t (q + 3))) : ∃ σ', f6_addWord x σ = some σ' ∧ IN9 σ' t (q + 4) ∧ KP9 σ σ' := by
  obtain ⟨x1, x2, x3, x4⟩ := ex_pk (ht q) (ht (q + 1)) (ht (q + 2)) (ht (q + 3))
  rw [← hx] at x1 x2 x3 x4
  obtain ⟨s1, e1, i1, k1⟩ := add_1 (fu := 999) (k := 24) h (by omega) (by decide) x1
  obtain ⟨s2, e2, i2, k2⟩ := add_1 (fu := 998) (k := 16) i1 (by omega) (by decide) x2
  obtain ⟨s3, e3, i3, k3⟩ := add_1 (fu := 997) (k := 8) i2 (by omega) (by decide) x3
  obtain ⟨s4, e4, i4, k4⟩ := add_1 (fu := 996) (k := 0) i3 (by omega) (by decide) x4
  refine ⟨s4, ?_, i4, ((k1.tr k2).tr k3).tr k4⟩
  unfold f6_addWord
  show f6_addWord_b3 (999 + 1) x (nI 24) σ = some s4
  rw [e1, show nI 24 + (-8) = nI 16 from by decide]
  show f6_addWord_b3 (998 + 1) x (nI 16) s1 = some s4
  rw [e2, show nI 16 + (-8) = nI 8 from by decide]
  show f6_addWord_b3 (997 + 1) x (nI 8) s2 = some s4
  rw [e3, show nI 8 + (-8) = nI 0 from by decide]
  show f6_addWord_b3 (996 + 1) x (nI 0) s3 = some s4
  rw [e4]
  show f6_addWord_b3 (995 + 1) x (nI 0 + (-8)) s4 = some s4
  rw [f6_addWord_b3, if_pos (by decide)]
theorem app_9 {σ : Sig} {t : Nat → Nat} {q : Nat} (ht : ∀ i, t i < 256) (h : IN9 σ t q) (hq : q + 20 ≤ 500) : ∃ r σ', f11_append (wf9 (fun i => t (q + i)) 20 0) (wf9 (fun i => t (q + i)) 20 1) (wf9 (fun i => t (q + i)) 20 2) (wf9 (fun i => t (q + i)) 20 3) (wf9 (fun i => t (q + i)) 20 4) σ = some (r, σ') ∧ IN9 σ' t (q + 20) ∧ KP9 σ σ' := by
  obtain ⟨w0, w1, w2, w3, w4⟩ := wf_pk (fun i => t (q + i))
  obtain ⟨s0, e0, i0, k0⟩ := add_4 ht h (by omega) w0
  obtain ⟨s1, e1, i1, k1⟩ := add_4 ht i0 (by omega) w1
  obtain ⟨s2, e2, i2, k2⟩ := add_4 ht i1 (by omega) w2
  obtain ⟨s3, e3, i3, k3⟩ := add_4 ht i2 (by omega) w3
  obtain ⟨s4, e4, i4, k4⟩ := add_4 ht i3 (by omega) w4
  refine ⟨s4 0 4 1, s4, ?_, i4, (((k0.tr k1).tr k2).tr k3).tr k4⟩
  unfold f11_append
  simp only [nm_eq, h.1]
  rw [if_pos (show nI q + 20 ≤ 500 from by rw [show nI q + 20 = nI (q + 20) from nI_add q 20]; exact nI_le (b := 500) (by omega) (by decide))]
  simp only [e0, e1, e2, e3, e4, bnd_eq]
/-- the letters, blanks behind -/
def t9 (tx : List Nat) (i : Nat) : Nat := if i < tx.length then tx.getD i 0 else 32
def sg9 (tx : List Nat) (σ : Sig) : Nat → Sig
  | 0 => σ
  | j + 1 => match f11_append (wf9 (chr9 tx (20 * j)) 20 0) (wf9 (chr9 tx (20 * j)) 20 1) (wf9 (chr9 tx (20 * j)) 20 2) (wf9 (chr9 tx (20 * j)) 20 3) (wf9 (chr9 tx (20 * j)) 20 4) (sg9 tx σ j) with
    | some q => q.2
    | none => σ
theorem sg_9 {tx : List Nat} {σ : Sig} (ht : ∀ i, t9 tx i < 256) (h0 : σ 0 4 1 = 0) : ∀ j, j ≤ 20 → (IN9 (sg9 tx σ j) (t9 tx) (20 * j) ∧ KP9 σ (sg9 tx σ j)) ∧ ∀ i, i < j → ∃ r, f11_append (wf9 (chr9 tx (20 * i)) 20 0) (wf9 (chr9 tx (20 * i)) 20 1) (wf9 (chr9 tx (20 * i)) 20 2) (wf9 (chr9 tx (20 * i)) 20 3) (wf9 (chr9 tx (20 * i)) 20 4) (sg9 tx σ i) = some (r, sg9 tx σ (i + 1)) := by
  intro j
  induction j with
  | zero => intro _; exact ⟨⟨⟨h0, fun i hi => absurd hi (Nat.not_lt_zero i)⟩, fun _ _ _ => rfl⟩, fun i hi => absurd hi (Nat.not_lt_zero i)⟩
  | succ j ih =>
    intro hj
    obtain ⟨⟨a, b⟩, c⟩ := ih (by omega)
    obtain ⟨r, s1, e, i1, k1⟩ := app_9 ht a (by omega)
    have e' : f11_append (wf9 (chr9 tx (20 * j)) 20 0) (wf9 (chr9 tx (20 * j)) 20 1) (wf9 (chr9 tx (20 * j)) 20 2) (wf9 (chr9 tx (20 * j)) 20 3) (wf9 (chr9 tx (20 * j)) 20 4) (sg9 tx σ j) = some (r, s1) := e
    have e2 : sg9 tx σ (j + 1) = s1 := by rw [sg9, e']
    refine ⟨⟨by rw [e2]; exact i1, by rw [e2]; exact b.tr k1⟩, fun i hi => ?_⟩
    by_cases z : i = j
    · subst z; exact ⟨r, by rw [e2]; exact e'⟩
    · exact c i (by omega)
theorem tx_9 {σ : Sig} {t : Nat → Nat} {q : Nat} (ht : ∀ i, t i < 256) (hq : q ≤ 500) (h : IN9 σ t q) : TX (fun i => nI (t i)) q σ := by
  refine ⟨h.1, hq, fun i hi => ?_⟩
  rw [h.2 i hi]
  have h1 := bt_low (nI (t i))
  have h2 := and255 (nI (t i))
  have h3 := ht i
  rw [nI_toInt (by omega)] at h2
  rw [show nI (t i) &&& 255 = nI (t i) from ti_ext (by rw [h2, nI_toInt (by omega)]; omega)] at h1
  exact h1
