/-! the changes, one by one: each ends, by an answer or by an exception that it names, and leaves a good garden -/
def AC (n : Nat) (X : Option Xe) (ls : List Nat) : Prop := ∃ (k : Nat) (v : Int32) (σ' : Sig) (G' : Gd), X = some (k, v, xg σ' 8 G') ∧ HS σ' [] ∧ Gok n G' ∧ (k = 0 ∨ k ∈ ls)
theorem AC.good {n : Nat} {v : Int32} {σ : Sig} {G : Gd} {l : List Gd} {ls : List Nat} (hs : HS σ l) (h : Gok n G) : AC n (some (0, v, xg σ 8 G)) ls := ⟨0, v, σ, G, rfl, hs.nil, h, Or.inl rfl⟩
theorem AC.bad {n k : Nat} {v : Int32} {σ : Sig} {G : Gd} {l : List Gd} {ls : List Nat} (hs : HS σ l) (h : Gok n G) (hk : k ∈ ls) : AC (n + 1) (some (k, v, xg σ 8 G)) ls := ⟨k, v, σ, G, rfl, hs.nil, h.le (Nat.le_succ n), Or.inr hk⟩
theorem kb_id {n : Nat} {G H : Gd} (h : Kb n G) (e3 : H 6 3 = G 6 3) (e1 : H 6 1 = G 6 1) (et : H 1 0 = G 1 0) : Kb (n + 1) H := (kb_same h e3 e1 et).le (Nat.le_succ n)
theorem p2_same {G : Gd} {c j : Nat} {v : Int32} (h : v = G c j) : p2 G c j v = G := by rw [h, p2_self]
section ACS
variable {σ : Sig} {G : Gd} {n : Nat}
theorem ac_setRate (a : Int32) (hs : HS σ []) (h : Gok n G) : AC (n + 1) (f11_setRate a (xg σ 8 G)) [1] := by
  unfold f11_setRate
  simp only [nm_ap, x_range, Int32.reduceToInt]
  by_cases c1 : 1 ≤ a.toInt ∧ a.toInt ≤ 20
  · obtain ⟨σ1, q1, hs1, -⟩ := rem_67 hs h.1 (Nat.zero_le _)
    simp only [if_pos c1, nm_ap, bnd_ap, bns_ap, bnx_ap0, bnx_ap1, bnx_ap2, bnx_ap3, bnx_ap4, gz_0, gz_1, dvd_96, dvd_2, dvd_10000, rmd_96, rmd_8, xg_at, xg_0, mr_at, up_xg, up_mr, narz_0, narz_1, i10, i01, i11, i00, ↓reduceIte, e10, e01, e50, e51, e20, e60, e70, e30, e40, Classical.not_not, not_true_eq_false, not_false_eq_true, x_range, Int32.reduceToInt, x_state, ite_not, q1]
    exact AC.good hs1 ⟨iv_rate h.1 c1, jv_rate h.2.1 a, kb_id h.2.2 rfl rfl rfl⟩
  · simp only [if_neg c1, nm_ap, bnd_ap, bns_ap, bnx_ap0, bnx_ap1, bnx_ap2, bnx_ap3, bnx_ap4, gz_0, gz_1, dvd_96, dvd_2, dvd_10000, rmd_96, rmd_8, xg_at, xg_0, mr_at, up_xg, up_mr, narz_0, narz_1, i10, i01, i11, i00, ↓reduceIte, e10, e01, e50, e51, e20, e60, e70, e30, e40, Classical.not_not, not_true_eq_false, not_false_eq_true, x_range, Int32.reduceToInt, x_state, ite_not]
    exact AC.bad hs h (by decide)
theorem ac_setPause (a : Int32) (hs : HS σ []) (h : Gok n G) : AC (n + 1) (f11_setPause a (xg σ 8 G)) [1] := by
  unfold f11_setPause
  simp only [nm_ap, x_range, Int32.reduceToInt]
  by_cases c1 : 0 ≤ a.toInt ∧ a.toInt ≤ 8
  · obtain ⟨σ1, q1, hs1, -⟩ := rem_67 hs h.1 (Nat.zero_le _)
    simp only [if_pos c1, nm_ap, bnd_ap, bns_ap, bnx_ap0, bnx_ap1, bnx_ap2, bnx_ap3, bnx_ap4, gz_0, gz_1, dvd_96, dvd_2, dvd_10000, rmd_96, rmd_8, xg_at, xg_0, mr_at, up_xg, up_mr, narz_0, narz_1, i10, i01, i11, i00, ↓reduceIte, e10, e01, e50, e51, e20, e60, e70, e30, e40, Classical.not_not, not_true_eq_false, not_false_eq_true, x_range, Int32.reduceToInt, x_state, ite_not, q1]
    exact AC.good hs1 ⟨iv_pause h.1 c1, jv_pause h.2.1 a, kb_id h.2.2 rfl rfl rfl⟩
  · simp only [if_neg c1, nm_ap, bnd_ap, bns_ap, bnx_ap0, bnx_ap1, bnx_ap2, bnx_ap3, bnx_ap4, gz_0, gz_1, dvd_96, dvd_2, dvd_10000, rmd_96, rmd_8, xg_at, xg_0, mr_at, up_xg, up_mr, narz_0, narz_1, i10, i01, i11, i00, ↓reduceIte, e10, e01, e50, e51, e20, e60, e70, e30, e40, Classical.not_not, not_true_eq_false, not_false_eq_true, x_range, Int32.reduceToInt, x_state, ite_not]
    exact AC.bad hs h (by decide)
theorem ac_setPrice (a b : Int32) (hs : HS σ []) (h : Gok n G) : AC (n + 1) (f11_setPrice a b (xg σ 8 G)) [2, 1] := by
  have h0 := h.1.1
  unfold f11_setPrice
  simp only [nm_ap, x_scentq, x_range, Int32.reduceToInt]
  by_cases c1 : 0 ≤ a.toInt ∧ a.toInt < (G 2 0).toInt
  · by_cases c2 : 1 ≤ b.toInt ∧ b.toInt ≤ 99
    · obtain ⟨σ1, q1, hs1, -⟩ := rem_67 hs h.1 (Nat.zero_le _)
      have a5 : 0 ≤ a.toInt ∧ a.toInt < ((5 : Nat) : Int) := by omega
      simp only [if_pos c1, if_pos c2, nm_ap, bnd_ap, bns_ap, bnx_ap0, bnx_ap1, bnx_ap2, bnx_ap3, bnx_ap4, gz_0, gz_1, dvd_96, dvd_2, dvd_10000, rmd_96, rmd_8, xg_at, xg_0, mr_at, up_xg, up_mr, narz_0, narz_1, i10, i01, i11, i00, ↓reduceIte, e10, e01, e50, e51, e20, e60, e70, e30, e40, Classical.not_not, not_true_eq_false, not_false_eq_true, x_range, Int32.reduceToInt, x_state, ite_not, q1, ald_in a5, ast_in a5]
      exact AC.good hs1 ⟨iv_price h.1 c2, jv_price h.2.1 _ b, kb_id h.2.2 rfl rfl rfl⟩
    · simp only [if_pos c1, if_neg c2, nm_ap, bnd_ap, bns_ap, bnx_ap0, bnx_ap1, bnx_ap2, bnx_ap3, bnx_ap4, gz_0, gz_1, dvd_96, dvd_2, dvd_10000, rmd_96, rmd_8, xg_at, xg_0, mr_at, up_xg, up_mr, narz_0, narz_1, i10, i01, i11, i00, ↓reduceIte, e10, e01, e50, e51, e20, e60, e70, e30, e40, Classical.not_not, not_true_eq_false, not_false_eq_true, x_range, Int32.reduceToInt, x_state, ite_not]
      exact AC.bad hs h (by decide)
  · simp only [if_neg c1, nm_ap, bnd_ap, bns_ap, bnx_ap0, bnx_ap1, bnx_ap2, bnx_ap3, bnx_ap4, gz_0, gz_1, dvd_96, dvd_2, dvd_10000, rmd_96, rmd_8, xg_at, xg_0, mr_at, up_xg, up_mr, narz_0, narz_1, i10, i01, i11, i00, ↓reduceIte, e10, e01, e50, e51, e20, e60, e70, e30, e40, Classical.not_not, not_true_eq_false, not_false_eq_true, x_range, Int32.reduceToInt, x_state, ite_not]
    exact AC.bad hs h (by decide)
theorem ac_layBed (a b c d : Int32) (hs : HS σ []) (h : Gok n G) : AC (n + 1) (f11_layBed a b c d (xg σ 8 G)) [2, 1, 3] := by
  have h0 := h.1.1
  unfold f11_layBed
  simp only [nm_ap, x_scentq, x_range, Int32.reduceToInt]
  by_cases c1 : 0 ≤ a.toInt ∧ a.toInt < (G 2 0).toInt
  · by_cases c2 : 1 ≤ b.toInt ∧ b.toInt ≤ 20
    · by_cases c3 : 0 ≤ c.toInt ∧ c.toInt ≤ 99
      · by_cases c4 : c.toInt ≤ d.toInt ∧ d.toInt ≤ 99
        · simp only [if_pos c1, if_pos c2, if_pos c3, if_pos c4, nm_ap, bnd_ap, bns_ap, bnx_ap0, bnx_ap1, bnx_ap2, bnx_ap3, bnx_ap4, gz_0, gz_1, dvd_96, dvd_2, dvd_10000, rmd_96, rmd_8, xg_at, xg_0, mr_at, up_xg, up_mr, narz_0, narz_1, i10, i01, i11, i00, ↓reduceIte, e10, e01, e50, e51, e20, e60, e70, e30, e40, Classical.not_not, not_true_eq_false, not_false_eq_true, x_range, Int32.reduceToInt, x_state, ite_not, x_room0]
          by_cases c5 : (G 3 0).toInt < 8
          · obtain ⟨σ1, q1, hs1, -⟩ := rem_67 hs h.1 (Nat.zero_le _)
            simp only [if_pos c5, x_state, nm_ap, bnd_ap, bns_ap, bnx_ap0, bnx_ap1, bnx_ap2, bnx_ap3, bnx_ap4, gz_0, gz_1, dvd_96, dvd_2, dvd_10000, rmd_96, rmd_8, xg_at, xg_0, mr_at, up_xg, up_mr, narz_0, narz_1, i10, i01, i11, i00, ↓reduceIte, e10, e01, e50, e51, e20, e60, e70, e30, e40, Classical.not_not, not_true_eq_false, not_false_eq_true, x_range, Int32.reduceToInt, x_state, ite_not, q1]
            rw [x_bed (by omega)]
            simp only [nm_ap, bnd_ap, bns_ap, bnx_ap0, bnx_ap1, bnx_ap2, bnx_ap3, bnx_ap4, gz_0, gz_1, dvd_96, dvd_2, dvd_10000, rmd_96, rmd_8, xg_at, xg_0, mr_at, up_xg, up_mr, narz_0, narz_1, i10, i01, i11, i00, ↓reduceIte, e10, e01, e50, e51, e20, e60, e70, e30, e40, Classical.not_not, not_true_eq_false, not_false_eq_true, x_range, Int32.reduceToInt, x_state, ite_not]
            exact AC.good hs1 ⟨iv_bed h.1 (by omega) (by omega) c2, jv_bed h.1 h.2.1 (by omega) (by omega) (by omega), kb_id h.2.2 rfl rfl rfl⟩
          · simp only [if_neg c5, x_state, nm_ap, bnd_ap, bns_ap, bnx_ap0, bnx_ap1, bnx_ap2, bnx_ap3, bnx_ap4, gz_0, gz_1, dvd_96, dvd_2, dvd_10000, rmd_96, rmd_8, xg_at, xg_0, mr_at, up_xg, up_mr, narz_0, narz_1, i10, i01, i11, i00, ↓reduceIte, e10, e01, e50, e51, e20, e60, e70, e30, e40, Classical.not_not, not_true_eq_false, not_false_eq_true, x_range, Int32.reduceToInt, x_state, ite_not]
            exact AC.bad hs h (by decide)
        · simp only [if_pos c1, if_pos c2, if_pos c3, if_neg c4, nm_ap, bnd_ap, bns_ap, bnx_ap0, bnx_ap1, bnx_ap2, bnx_ap3, bnx_ap4, gz_0, gz_1, dvd_96, dvd_2, dvd_10000, rmd_96, rmd_8, xg_at, xg_0, mr_at, up_xg, up_mr, narz_0, narz_1, i10, i01, i11, i00, ↓reduceIte, e10, e01, e50, e51, e20, e60, e70, e30, e40, Classical.not_not, not_true_eq_false, not_false_eq_true, x_range, Int32.reduceToInt, x_state, ite_not]
          exact AC.bad hs h (by decide)
      · simp only [if_pos c1, if_pos c2, if_neg c3, nm_ap, bnd_ap, bns_ap, bnx_ap0, bnx_ap1, bnx_ap2, bnx_ap3, bnx_ap4, gz_0, gz_1, dvd_96, dvd_2, dvd_10000, rmd_96, rmd_8, xg_at, xg_0, mr_at, up_xg, up_mr, narz_0, narz_1, i10, i01, i11, i00, ↓reduceIte, e10, e01, e50, e51, e20, e60, e70, e30, e40, Classical.not_not, not_true_eq_false, not_false_eq_true, x_range, Int32.reduceToInt, x_state, ite_not]
        exact AC.bad hs h (by decide)
    · simp only [if_pos c1, if_neg c2, nm_ap, bnd_ap, bns_ap, bnx_ap0, bnx_ap1, bnx_ap2, bnx_ap3, bnx_ap4, gz_0, gz_1, dvd_96, dvd_2, dvd_10000, rmd_96, rmd_8, xg_at, xg_0, mr_at, up_xg, up_mr, narz_0, narz_1, i10, i01, i11, i00, ↓reduceIte, e10, e01, e50, e51, e20, e60, e70, e30, e40, Classical.not_not, not_true_eq_false, not_false_eq_true, x_range, Int32.reduceToInt, x_state, ite_not]
      exact AC.bad hs h (by decide)
  · simp only [if_neg c1, nm_ap, bnd_ap, bns_ap, bnx_ap0, bnx_ap1, bnx_ap2, bnx_ap3, bnx_ap4, gz_0, gz_1, dvd_96, dvd_2, dvd_10000, rmd_96, rmd_8, xg_at, xg_0, mr_at, up_xg, up_mr, narz_0, narz_1, i10, i01, i11, i00, ↓reduceIte, e10, e01, e50, e51, e20, e60, e70, e30, e40, Classical.not_not, not_true_eq_false, not_false_eq_true, x_range, Int32.reduceToInt, x_state, ite_not]
    exact AC.bad hs h (by decide)
theorem ac_setPeacocks (a b : Int32) (hs : HS σ []) (h : Gok n G) : AC (n + 1) (f11_setPeacocks a b (xg σ 8 G)) [1] := by
  unfold f11_setPeacocks
  simp only [nm_ap, x_range, Int32.reduceToInt]
  by_cases c1 : 0 ≤ a.toInt ∧ a.toInt ≤ 95
  · by_cases c2 : a.toInt ≤ b.toInt ∧ b.toInt ≤ 95
    · obtain ⟨σ1, q1, hs1, -⟩ := rem_67 hs h.1 (Nat.zero_le _)
      simp only [if_pos c1, if_pos c2, nm_ap, bnd_ap, bns_ap, bnx_ap0, bnx_ap1, bnx_ap2, bnx_ap3, bnx_ap4, gz_0, gz_1, dvd_96, dvd_2, dvd_10000, rmd_96, rmd_8, xg_at, xg_0, mr_at, up_xg, up_mr, narz_0, narz_1, i10, i01, i11, i00, ↓reduceIte, e10, e01, e50, e51, e20, e60, e70, e30, e40, Classical.not_not, not_true_eq_false, not_false_eq_true, x_range, Int32.reduceToInt, x_state, ite_not, q1, x_walk, x_oticks]
      exact AC.good hs1 ⟨iv_wlk h.1 a b, jv_wlk h.2.1 a b, kb_id h.2.2 rfl rfl rfl⟩
    · simp only [if_pos c1, if_neg c2, nm_ap, bnd_ap, bns_ap, bnx_ap0, bnx_ap1, bnx_ap2, bnx_ap3, bnx_ap4, gz_0, gz_1, dvd_96, dvd_2, dvd_10000, rmd_96, rmd_8, xg_at, xg_0, mr_at, up_xg, up_mr, narz_0, narz_1, i10, i01, i11, i00, ↓reduceIte, e10, e01, e50, e51, e20, e60, e70, e30, e40, Classical.not_not, not_true_eq_false, not_false_eq_true, x_range, Int32.reduceToInt, x_state, ite_not]
      exact AC.bad hs h (by decide)
  · simp only [if_neg c1, nm_ap, bnd_ap, bns_ap, bnx_ap0, bnx_ap1, bnx_ap2, bnx_ap3, bnx_ap4, gz_0, gz_1, dvd_96, dvd_2, dvd_10000, rmd_96, rmd_8, xg_at, xg_0, mr_at, up_xg, up_mr, narz_0, narz_1, i10, i01, i11, i00, ↓reduceIte, e10, e01, e50, e51, e20, e60, e70, e30, e40, Classical.not_not, not_true_eq_false, not_false_eq_true, x_range, Int32.reduceToInt, x_state, ite_not]
    exact AC.bad hs h (by decide)
theorem ac_sell (a b c d : Int32) (hs : HS σ []) (h : Gok n G) : AC (n + 1) (f11_sell a b c d (xg σ 8 G)) [1, 3] := by
  have h0 := h.1.1
  have ht := Td_in h.1
  unfold f11_sell
  simp only [nm_ap, x_set, x_range, Int32.reduceToInt, x_today, bnd_ap]
  by_cases c1 : 1 ≤ a.toInt ∧ a.toInt ≤ (SA G).toInt
  · by_cases c2 : (Td G).toInt ≤ b.toInt ∧ b.toInt ≤ 99
    · by_cases c3 : 1 ≤ c.toInt ∧ c.toInt ≤ 14
      · by_cases c4 : 0 ≤ d.toInt ∧ d.toInt ≤ 1
        · simp only [if_pos c1, if_pos c2, if_pos c3, if_pos c4, nm_ap, bnd_ap, bns_ap, bnx_ap0, bnx_ap1, bnx_ap2, bnx_ap3, bnx_ap4, gz_0, gz_1, dvd_96, dvd_2, dvd_10000, rmd_96, rmd_8, xg_at, xg_0, mr_at, up_xg, up_mr, narz_0, narz_1, i10, i01, i11, i00, ↓reduceIte, e10, e01, e50, e51, e20, e60, e70, e30, e40, Classical.not_not, not_true_eq_false, not_false_eq_true, x_range, Int32.reduceToInt, x_state, ite_not, x_today, x_canSell]
          by_cases c5 : (G 4 0).toInt < 30 ∧ (G 5 0).toInt < 50
          · obtain ⟨σ1, q1, hs1, -⟩ := rem_67 hs h.1 (Nat.zero_le _)
            simp only [if_pos c5, x_state, nm_ap, bnd_ap, bns_ap, bnx_ap0, bnx_ap1, bnx_ap2, bnx_ap3, bnx_ap4, gz_0, gz_1, dvd_96, dvd_2, dvd_10000, rmd_96, rmd_8, xg_at, xg_0, mr_at, up_xg, up_mr, narz_0, narz_1, i10, i01, i11, i00, ↓reduceIte, e10, e01, e50, e51, e20, e60, e70, e30, e40, Classical.not_not, not_true_eq_false, not_false_eq_true, x_range, Int32.reduceToInt, x_state, ite_not, q1]
            rw [x_sell (by omega) (by omega) (by omega)]
            simp only [nm_ap, bnd_ap, bns_ap, bnx_ap0, bnx_ap1, bnx_ap2, bnx_ap3, bnx_ap4, gz_0, gz_1, dvd_96, dvd_2, dvd_10000, rmd_96, rmd_8, xg_at, xg_0, mr_at, up_xg, up_mr, narz_0, narz_1, i10, i01, i11, i00, ↓reduceIte, e10, e01, e50, e51, e20, e60, e70, e30, e40, Classical.not_not, not_true_eq_false, not_false_eq_true, x_range, Int32.reduceToInt, x_state, ite_not]
            exact AC.good hs1 ⟨iv_sel h.1 (by omega) (by omega) (by omega) (by omega) (by omega) c3 c4 (Pr_in h.1 c3), jv_sel h.1 h.2.1 (by omega) (by omega) (by omega) (by omega), kb_id h.2.2 rfl rfl rfl⟩
          · simp only [if_neg c5, x_state, nm_ap, bnd_ap, bns_ap, bnx_ap0, bnx_ap1, bnx_ap2, bnx_ap3, bnx_ap4, gz_0, gz_1, dvd_96, dvd_2, dvd_10000, rmd_96, rmd_8, xg_at, xg_0, mr_at, up_xg, up_mr, narz_0, narz_1, i10, i01, i11, i00, ↓reduceIte, e10, e01, e50, e51, e20, e60, e70, e30, e40, Classical.not_not, not_true_eq_false, not_false_eq_true, x_range, Int32.reduceToInt, x_state, ite_not]
            exact AC.bad hs h (by decide)
        · simp only [if_pos c1, if_pos c2, if_pos c3, if_neg c4, nm_ap, bnd_ap, bns_ap, bnx_ap0, bnx_ap1, bnx_ap2, bnx_ap3, bnx_ap4, gz_0, gz_1, dvd_96, dvd_2, dvd_10000, rmd_96, rmd_8, xg_at, xg_0, mr_at, up_xg, up_mr, narz_0, narz_1, i10, i01, i11, i00, ↓reduceIte, e10, e01, e50, e51, e20, e60, e70, e30, e40, Classical.not_not, not_true_eq_false, not_false_eq_true, x_range, Int32.reduceToInt, x_state, ite_not, x_today]
          exact AC.bad hs h (by decide)
      · simp only [if_pos c1, if_pos c2, if_neg c3, nm_ap, bnd_ap, bns_ap, bnx_ap0, bnx_ap1, bnx_ap2, bnx_ap3, bnx_ap4, gz_0, gz_1, dvd_96, dvd_2, dvd_10000, rmd_96, rmd_8, xg_at, xg_0, mr_at, up_xg, up_mr, narz_0, narz_1, i10, i01, i11, i00, ↓reduceIte, e10, e01, e50, e51, e20, e60, e70, e30, e40, Classical.not_not, not_true_eq_false, not_false_eq_true, x_range, Int32.reduceToInt, x_state, ite_not, x_today]
        exact AC.bad hs h (by decide)
    · simp only [if_pos c1, if_neg c2, nm_ap, bnd_ap, bns_ap, bnx_ap0, bnx_ap1, bnx_ap2, bnx_ap3, bnx_ap4, gz_0, gz_1, dvd_96, dvd_2, dvd_10000, rmd_96, rmd_8, xg_at, xg_0, mr_at, up_xg, up_mr, narz_0, narz_1, i10, i01, i11, i00, ↓reduceIte, e10, e01, e50, e51, e20, e60, e70, e30, e40, Classical.not_not, not_true_eq_false, not_false_eq_true, x_range, Int32.reduceToInt, x_state, ite_not, x_today]
      exact AC.bad hs h (by decide)
  · simp only [if_neg c1, nm_ap, bnd_ap, bns_ap, bnx_ap0, bnx_ap1, bnx_ap2, bnx_ap3, bnx_ap4, gz_0, gz_1, dvd_96, dvd_2, dvd_10000, rmd_96, rmd_8, xg_at, xg_0, mr_at, up_xg, up_mr, narz_0, narz_1, i10, i01, i11, i00, ↓reduceIte, e10, e01, e50, e51, e20, e60, e70, e30, e40, Classical.not_not, not_true_eq_false, not_false_eq_true, x_range, Int32.reduceToInt, x_state, ite_not]
    exact AC.bad hs h (by decide)
theorem ac_extend (a b : Int32) (hs : HS σ []) (h : Gok n G) : AC (n + 1) (f11_extend a b (xg σ 8 G)) [2, 1, 3] := by
  have h0 := h.1.1
  unfold f11_extend
  simp only [nm_ap, x_pass]
  by_cases c1 : 0 ≤ a.toInt ∧ a.toInt < (G 4 0).toInt
  · by_cases c2 : 1 ≤ b.toInt ∧ b.toInt ≤ 13
    · have an : ((a.toInt.toNat : Nat) : Int) < (G 4 0).toInt := by omega
      have a3 : 0 ≤ a.toInt ∧ a.toInt < 30 := by omega
      have a30 : 0 ≤ a.toInt ∧ a.toInt < ((30 : Nat) : Int) := a3
      have h1 := h.1.p an
      have ed : (G 17 a.toInt.toNat + b).toInt = (G 17 a.toInt.toNat).toInt + b.toInt := tv_add rfl rfl (by omega)
      simp only [if_pos c1, if_pos c2, nm_ap, bnd_ap, bns_ap, bnx_ap0, bnx_ap1, bnx_ap2, bnx_ap3, bnx_ap4, gz_0, gz_1, dvd_96, dvd_2, dvd_10000, rmd_96, rmd_8, xg_at, xg_0, mr_at, up_xg, up_mr, narz_0, narz_1, i10, i01, i11, i00, ↓reduceIte, e10, e01, e50, e51, e20, e60, e70, e30, e40, Classical.not_not, not_true_eq_false, not_false_eq_true, x_range, Int32.reduceToInt, x_state, ite_not, x_canChange h.1 c1]
      by_cases c3 : CcP G a.toInt.toNat
      · simp only [if_pos c3, nm_ap, bnd_ap, bns_ap, bnx_ap0, bnx_ap1, bnx_ap2, bnx_ap3, bnx_ap4, gz_0, gz_1, dvd_96, dvd_2, dvd_10000, rmd_96, rmd_8, xg_at, xg_0, mr_at, up_xg, up_mr, narz_0, narz_1, i10, i01, i11, i00, ↓reduceIte, e10, e01, e50, e51, e20, e60, e70, e30, e40, Classical.not_not, not_true_eq_false, not_false_eq_true, x_range, Int32.reduceToInt, x_state, ite_not, ald_in a30, Int32.lt_iff_toInt_lt, Int32.le_iff_toInt_le, ed]
        unfold f11_extend_b47
        by_cases c4 : (G 17 a.toInt.toNat).toInt + b.toInt ≤ 14
        · obtain ⟨σ1, q1, hs1, -⟩ := rem_67 hs h.1 (Nat.zero_le _)
          have c4' : ¬ 14 < (G 17 a.toInt.toNat).toInt + b.toInt := by omega
          have hx := x_newPrice (σ := σ1) (n := 8) h.1 (set := G 15 a.toInt.toNat) (days := G 17 a.toInt.toNat + b) c1 (by rw [ed]; omega)
          rw [p2_self] at hx
          simp only [if_pos c4, if_neg c4', nm_ap, bnd_ap, bns_ap, bnx_ap0, bnx_ap1, bnx_ap2, bnx_ap3, bnx_ap4, gz_0, gz_1, dvd_96, dvd_2, dvd_10000, rmd_96, rmd_8, xg_at, xg_0, mr_at, up_xg, up_mr, narz_0, narz_1, i10, i01, i11, i00, ↓reduceIte, e10, e01, e50, e51, e20, e60, e70, e30, e40, Classical.not_not, not_true_eq_false, not_false_eq_true, x_range, Int32.reduceToInt, x_state, ite_not, q1, ald_in a30, ast_in a30, hx]
          exact AC.good hs1 ⟨iv_ren h.1 an (by rw [ed]; omega), jv_ren h.2.1 (by rw [ed]; omega), kb_id h.2.2 rfl rfl rfl⟩
        · have c4' : 14 < (G 17 a.toInt.toNat).toInt + b.toInt := by omega
          simp only [if_neg c4, if_pos c4', nm_ap, bnd_ap, bns_ap, bnx_ap0, bnx_ap1, bnx_ap2, bnx_ap3, bnx_ap4, gz_0, gz_1, dvd_96, dvd_2, dvd_10000, rmd_96, rmd_8, xg_at, xg_0, mr_at, up_xg, up_mr, narz_0, narz_1, i10, i01, i11, i00, ↓reduceIte, e10, e01, e50, e51, e20, e60, e70, e30, e40, Classical.not_not, not_true_eq_false, not_false_eq_true, x_range, Int32.reduceToInt, x_state, ite_not]
          exact AC.bad hs h (by decide)
      · simp only [if_neg c3, nm_ap, bnd_ap, bns_ap, bnx_ap0, bnx_ap1, bnx_ap2, bnx_ap3, bnx_ap4, gz_0, gz_1, dvd_96, dvd_2, dvd_10000, rmd_96, rmd_8, xg_at, xg_0, mr_at, up_xg, up_mr, narz_0, narz_1, i10, i01, i11, i00, ↓reduceIte, e10, e01, e50, e51, e20, e60, e70, e30, e40, Classical.not_not, not_true_eq_false, not_false_eq_true, x_range, Int32.reduceToInt, x_state, ite_not]
        exact AC.bad hs h (by decide)
    · simp only [if_pos c1, if_neg c2, nm_ap, bnd_ap, bns_ap, bnx_ap0, bnx_ap1, bnx_ap2, bnx_ap3, bnx_ap4, gz_0, gz_1, dvd_96, dvd_2, dvd_10000, rmd_96, rmd_8, xg_at, xg_0, mr_at, up_xg, up_mr, narz_0, narz_1, i10, i01, i11, i00, ↓reduceIte, e10, e01, e50, e51, e20, e60, e70, e30, e40, Classical.not_not, not_true_eq_false, not_false_eq_true, x_range, Int32.reduceToInt, x_state, ite_not]
      exact AC.bad hs h (by decide)
  · simp only [if_neg c1, nm_ap, bnd_ap, bns_ap, bnx_ap0, bnx_ap1, bnx_ap2, bnx_ap3, bnx_ap4, gz_0, gz_1, dvd_96, dvd_2, dvd_10000, rmd_96, rmd_8, xg_at, xg_0, mr_at, up_xg, up_mr, narz_0, narz_1, i10, i01, i11, i00, ↓reduceIte, e10, e01, e50, e51, e20, e60, e70, e30, e40, Classical.not_not, not_true_eq_false, not_false_eq_true, x_range, Int32.reduceToInt, x_state, ite_not]
    exact AC.bad hs h (by decide)
theorem ac_addScent (a b : Int32) (hs : HS σ []) (h : Gok n G) : AC (n + 1) (f11_addScent a b (xg σ 8 G)) [2, 3] := by
  have h0 := h.1.1
  unfold f11_addScent
  simp only [nm_ap, x_pass]
  by_cases c1 : 0 ≤ a.toInt ∧ a.toInt < (G 4 0).toInt
  · simp only [if_pos c1, nm_ap, bnd_ap, bns_ap, bnx_ap0, bnx_ap1, bnx_ap2, bnx_ap3, bnx_ap4, gz_0, gz_1, dvd_96, dvd_2, dvd_10000, rmd_96, rmd_8, xg_at, xg_0, mr_at, up_xg, up_mr, narz_0, narz_1, i10, i01, i11, i00, ↓reduceIte, e10, e01, e50, e51, e20, e60, e70, e30, e40, Classical.not_not, not_true_eq_false, not_false_eq_true, x_range, Int32.reduceToInt, x_state, ite_not, x_scentq]
    by_cases c2 : 0 ≤ b.toInt ∧ b.toInt < (G 2 0).toInt
    · have an : ((a.toInt.toNat : Nat) : Int) < (G 4 0).toInt := by omega
      have a3 : 0 ≤ a.toInt ∧ a.toInt < 30 := by omega
      have a30 : 0 ≤ a.toInt ∧ a.toInt < ((30 : Nat) : Int) := a3
      have h1 := h.1.p an
      simp only [if_pos c2, nm_ap, bnd_ap, bns_ap, bnx_ap0, bnx_ap1, bnx_ap2, bnx_ap3, bnx_ap4, gz_0, gz_1, dvd_96, dvd_2, dvd_10000, rmd_96, rmd_8, xg_at, xg_0, mr_at, up_xg, up_mr, narz_0, narz_1, i10, i01, i11, i00, ↓reduceIte, e10, e01, e50, e51, e20, e60, e70, e30, e40, Classical.not_not, not_true_eq_false, not_false_eq_true, x_range, Int32.reduceToInt, x_state, ite_not, x_canChange h.1 c1]
      by_cases c3 : CcP G a.toInt.toNat
      · simp only [if_pos c3, nm_ap, bnd_ap, bns_ap, bnx_ap0, bnx_ap1, bnx_ap2, bnx_ap3, bnx_ap4, gz_0, gz_1, dvd_96, dvd_2, dvd_10000, rmd_96, rmd_8, xg_at, xg_0, mr_at, up_xg, up_mr, narz_0, narz_1, i10, i01, i11, i00, ↓reduceIte, e10, e01, e50, e51, e20, e60, e70, e30, e40, Classical.not_not, not_true_eq_false, not_false_eq_true, x_range, Int32.reduceToInt, x_state, ite_not, x_hasScent a3]
        unfold f11_addScent_b41
        rcases and1 (G 15 a.toInt.toNat >>> (b &&& 31)) with c4 | c4
        · obtain ⟨σ1, q1, hs1, -⟩ := rem_67 hs h.1 (Nat.zero_le _)
          have hx := x_newPrice (σ := σ1) (n := 8) h.1 (set := G 15 a.toInt.toNat ||| (1 : Int32) <<< (b &&& 31)) (days := G 17 a.toInt.toNat) c1 (by omega)
          rw [p2_same (G := p2 G 15 a.toInt.toNat (G 15 a.toInt.toNat ||| (1 : Int32) <<< (b &&& 31))) (c := 17) (j := a.toInt.toNat) (v := G 17 a.toInt.toNat) rfl] at hx
          simp only [c4, nm_ap, bnd_ap, bns_ap, bnx_ap0, bnx_ap1, bnx_ap2, bnx_ap3, bnx_ap4, gz_0, gz_1, dvd_96, dvd_2, dvd_10000, rmd_96, rmd_8, xg_at, xg_0, mr_at, up_xg, up_mr, narz_0, narz_1, i10, i01, i11, i00, ↓reduceIte, e10, e01, e50, e51, e20, e60, e70, e30, e40, Classical.not_not, not_true_eq_false, not_false_eq_true, x_range, Int32.reduceToInt, x_state, ite_not, q1, ald_in a30, ast_in a30, hx]
          exact AC.good hs1 ⟨iv_ren h.1 an (by omega), jv_ren h.2.1 (by omega), kb_id h.2.2 rfl rfl rfl⟩
        · simp only [c4, nm_ap, bnd_ap, bns_ap, bnx_ap0, bnx_ap1, bnx_ap2, bnx_ap3, bnx_ap4, gz_0, gz_1, dvd_96, dvd_2, dvd_10000, rmd_96, rmd_8, xg_at, xg_0, mr_at, up_xg, up_mr, narz_0, narz_1, i10, i01, i11, i00, ↓reduceIte, e10, e01, e50, e51, e20, e60, e70, e30, e40, Classical.not_not, not_true_eq_false, not_false_eq_true, x_range, Int32.reduceToInt, x_state, ite_not]
          exact AC.bad hs h (by decide)
      · simp only [if_neg c3, nm_ap, bnd_ap, bns_ap, bnx_ap0, bnx_ap1, bnx_ap2, bnx_ap3, bnx_ap4, gz_0, gz_1, dvd_96, dvd_2, dvd_10000, rmd_96, rmd_8, xg_at, xg_0, mr_at, up_xg, up_mr, narz_0, narz_1, i10, i01, i11, i00, ↓reduceIte, e10, e01, e50, e51, e20, e60, e70, e30, e40, Classical.not_not, not_true_eq_false, not_false_eq_true, x_range, Int32.reduceToInt, x_state, ite_not]
        exact AC.bad hs h (by decide)
    · simp only [if_neg c2, nm_ap, bnd_ap, bns_ap, bnx_ap0, bnx_ap1, bnx_ap2, bnx_ap3, bnx_ap4, gz_0, gz_1, dvd_96, dvd_2, dvd_10000, rmd_96, rmd_8, xg_at, xg_0, mr_at, up_xg, up_mr, narz_0, narz_1, i10, i01, i11, i00, ↓reduceIte, e10, e01, e50, e51, e20, e60, e70, e30, e40, Classical.not_not, not_true_eq_false, not_false_eq_true, x_range, Int32.reduceToInt, x_state, ite_not]
      exact AC.bad hs h (by decide)
  · simp only [if_neg c1, nm_ap, bnd_ap, bns_ap, bnx_ap0, bnx_ap1, bnx_ap2, bnx_ap3, bnx_ap4, gz_0, gz_1, dvd_96, dvd_2, dvd_10000, rmd_96, rmd_8, xg_at, xg_0, mr_at, up_xg, up_mr, narz_0, narz_1, i10, i01, i11, i00, ↓reduceIte, e10, e01, e50, e51, e20, e60, e70, e30, e40, Classical.not_not, not_true_eq_false, not_false_eq_true, x_range, Int32.reduceToInt, x_state, ite_not]
    exact AC.bad hs h (by decide)
theorem ac_reportLost (a : Int32) (hs : HS σ []) (h : Gok n G) : AC (n + 1) (f11_reportLost a (xg σ 8 G)) [2, 3] := by
  have h0 := h.1.1
  unfold f11_reportLost
  simp only [nm_ap, x_pass]
  by_cases c1 : 0 ≤ a.toInt ∧ a.toInt < (G 4 0).toInt
  · have an : ((a.toInt.toNat : Nat) : Int) < (G 4 0).toInt := by omega
    have a3 : 0 ≤ a.toInt ∧ a.toInt < 30 := by omega
    have h1 := h.1.p an
    simp only [if_pos c1, nm_ap, bnd_ap, bns_ap, bnx_ap0, bnx_ap1, bnx_ap2, bnx_ap3, bnx_ap4, gz_0, gz_1, dvd_96, dvd_2, dvd_10000, rmd_96, rmd_8, xg_at, xg_0, mr_at, up_xg, up_mr, narz_0, narz_1, i10, i01, i11, i00, ↓reduceIte, e10, e01, e50, e51, e20, e60, e70, e30, e40, Classical.not_not, not_true_eq_false, not_false_eq_true, x_range, Int32.reduceToInt, x_state, ite_not, x_hasCard a3]
    by_cases c2 : (G 20 a.toInt.toNat).toInt = -1
    · simp only [if_pos c2, nm_ap, bnd_ap, bns_ap, bnx_ap0, bnx_ap1, bnx_ap2, bnx_ap3, bnx_ap4, gz_0, gz_1, dvd_96, dvd_2, dvd_10000, rmd_96, rmd_8, xg_at, xg_0, mr_at, up_xg, up_mr, narz_0, narz_1, i10, i01, i11, i00, ↓reduceIte, e10, e01, e50, e51, e20, e60, e70, e30, e40, Classical.not_not, not_true_eq_false, not_false_eq_true, x_range, Int32.reduceToInt, x_state, ite_not]
      exact AC.bad hs h (by decide)
    · obtain ⟨σ1, q1, hs1, -⟩ := rem_67 hs h.1 (Nat.zero_le _)
      simp only [if_neg c2, nm_ap, bnd_ap, bns_ap, bnx_ap0, bnx_ap1, bnx_ap2, bnx_ap3, bnx_ap4, gz_0, gz_1, dvd_96, dvd_2, dvd_10000, rmd_96, rmd_8, xg_at, xg_0, mr_at, up_xg, up_mr, narz_0, narz_1, i10, i01, i11, i00, ↓reduceIte, e10, e01, e50, e51, e20, e60, e70, e30, e40, Classical.not_not, not_true_eq_false, not_false_eq_true, x_range, Int32.reduceToInt, x_state, ite_not, q1]
      rw [x_block a3 (by omega) (by omega)]
      simp only [nm_ap, bnd_ap, bns_ap, bnx_ap0, bnx_ap1, bnx_ap2, bnx_ap3, bnx_ap4, gz_0, gz_1, dvd_96, dvd_2, dvd_10000, rmd_96, rmd_8, xg_at, xg_0, mr_at, up_xg, up_mr, narz_0, narz_1, i10, i01, i11, i00, ↓reduceIte, e10, e01, e50, e51, e20, e60, e70, e30, e40, Classical.not_not, not_true_eq_false, not_false_eq_true, x_range, Int32.reduceToInt, x_state, ite_not]
      exact AC.good hs1 ⟨iv_los h.1 an (by omega), jv_los h.1 h.2.1 an (by omega), kb_id h.2.2 rfl rfl rfl⟩
  · simp only [if_neg c1, nm_ap, bnd_ap, bns_ap, bnx_ap0, bnx_ap1, bnx_ap2, bnx_ap3, bnx_ap4, gz_0, gz_1, dvd_96, dvd_2, dvd_10000, rmd_96, rmd_8, xg_at, xg_0, mr_at, up_xg, up_mr, narz_0, narz_1, i10, i01, i11, i00, ↓reduceIte, e10, e01, e50, e51, e20, e60, e70, e30, e40, Classical.not_not, not_true_eq_false, not_false_eq_true, x_range, Int32.reduceToInt, x_state, ite_not]
    exact AC.bad hs h (by decide)
theorem ac_replaceCard (a : Int32) (hs : HS σ []) (h : Gok n G) : AC (n + 1) (f11_replaceCard a (xg σ 8 G)) [2, 3] := by
  have h0 := h.1.1
  unfold f11_replaceCard
  simp only [nm_ap, x_pass]
  by_cases c1 : 0 ≤ a.toInt ∧ a.toInt < (G 4 0).toInt
  · have an : ((a.toInt.toNat : Nat) : Int) < (G 4 0).toInt := by omega
    have a3 : 0 ≤ a.toInt ∧ a.toInt < 30 := by omega
    simp only [if_pos c1, nm_ap, bnd_ap, bns_ap, bnx_ap0, bnx_ap1, bnx_ap2, bnx_ap3, bnx_ap4, gz_0, gz_1, dvd_96, dvd_2, dvd_10000, rmd_96, rmd_8, xg_at, xg_0, mr_at, up_xg, up_mr, narz_0, narz_1, i10, i01, i11, i00, ↓reduceIte, e10, e01, e50, e51, e20, e60, e70, e30, e40, Classical.not_not, not_true_eq_false, not_false_eq_true, x_range, Int32.reduceToInt, x_state, ite_not, x_canReplace a3]
    by_cases c2 : CrP G a.toInt.toNat
    · obtain ⟨σ1, q1, hs1, -⟩ := rem_67 hs h.1 (Nat.zero_le _)
      have c2' := c2
      simp only [if_pos c2, nm_ap, bnd_ap, bns_ap, bnx_ap0, bnx_ap1, bnx_ap2, bnx_ap3, bnx_ap4, gz_0, gz_1, dvd_96, dvd_2, dvd_10000, rmd_96, rmd_8, xg_at, xg_0, mr_at, up_xg, up_mr, narz_0, narz_1, i10, i01, i11, i00, ↓reduceIte, e10, e01, e50, e51, e20, e60, e70, e30, e40, Classical.not_not, not_true_eq_false, not_false_eq_true, x_range, Int32.reduceToInt, x_state, ite_not, q1]
      rw [x_card a3 (by omega)]
      simp only [nm_ap, bnd_ap, bns_ap, bnx_ap0, bnx_ap1, bnx_ap2, bnx_ap3, bnx_ap4, gz_0, gz_1, dvd_96, dvd_2, dvd_10000, rmd_96, rmd_8, xg_at, xg_0, mr_at, up_xg, up_mr, narz_0, narz_1, i10, i01, i11, i00, ↓reduceIte, e10, e01, e50, e51, e20, e60, e70, e30, e40, Classical.not_not, not_true_eq_false, not_false_eq_true, x_range, Int32.reduceToInt, x_state, ite_not]
      exact AC.good hs1 ⟨iv_crd h.1 an (by omega) (by omega) (by omega), jv_crd h.1 h.2.1 an (by omega) (by omega) (by omega) c2'.1 c2'.2.1, kb_id h.2.2 rfl rfl rfl⟩
    · simp only [if_neg c2, nm_ap, bnd_ap, bns_ap, bnx_ap0, bnx_ap1, bnx_ap2, bnx_ap3, bnx_ap4, gz_0, gz_1, dvd_96, dvd_2, dvd_10000, rmd_96, rmd_8, xg_at, xg_0, mr_at, up_xg, up_mr, narz_0, narz_1, i10, i01, i11, i00, ↓reduceIte, e10, e01, e50, e51, e20, e60, e70, e30, e40, Classical.not_not, not_true_eq_false, not_false_eq_true, x_range, Int32.reduceToInt, x_state, ite_not]
      exact AC.bad hs h (by decide)
  · simp only [if_neg c1, nm_ap, bnd_ap, bns_ap, bnx_ap0, bnx_ap1, bnx_ap2, bnx_ap3, bnx_ap4, gz_0, gz_1, dvd_96, dvd_2, dvd_10000, rmd_96, rmd_8, xg_at, xg_0, mr_at, up_xg, up_mr, narz_0, narz_1, i10, i01, i11, i00, ↓reduceIte, e10, e01, e50, e51, e20, e60, e70, e30, e40, Classical.not_not, not_true_eq_false, not_false_eq_true, x_range, Int32.reduceToInt, x_state, ite_not]
    exact AC.bad hs h (by decide)
theorem ac_refundPass (a : Int32) (hn : n ≤ 1000) (hs : HS σ []) (h : Gok n G) : AC (n + 1) (f11_refundPass a (xg σ 8 G)) [2, 3] := by
  have h0 := h.1.1
  unfold f11_refundPass
  simp only [nm_ap, x_pass]
  by_cases c1 : 0 ≤ a.toInt ∧ a.toInt < (G 4 0).toInt
  · have an : ((a.toInt.toNat : Nat) : Int) < (G 4 0).toInt := by omega
    have a3 : 0 ≤ a.toInt ∧ a.toInt < 30 := by omega
    have a30 : 0 ≤ a.toInt ∧ a.toInt < ((30 : Nat) : Int) := a3
    have h1 := h.1.p an
    unfold f11_refundPass_b25
    simp only [if_pos c1, nm_ap, bnd_ap, bns_ap, bnx_ap0, bnx_ap1, bnx_ap2, bnx_ap3, bnx_ap4, gz_0, gz_1, dvd_96, dvd_2, dvd_10000, rmd_96, rmd_8, xg_at, xg_0, mr_at, up_xg, up_mr, narz_0, narz_1, i10, i01, i11, i00, ↓reduceIte, e10, e01, e50, e51, e20, e60, e70, e30, e40, Classical.not_not, not_true_eq_false, not_false_eq_true, x_range, Int32.reduceToInt, x_state, ite_not, ald_in a30]
    rcases b01 (x := G 21 a.toInt.toNat) (by omega) with c2 | c2
    · obtain ⟨σ1, q1, hs1, -⟩ := rem_67 hs h.1 (Nat.zero_le _)
      simp only [c2, nm_ap, bnd_ap, bns_ap, bnx_ap0, bnx_ap1, bnx_ap2, bnx_ap3, bnx_ap4, gz_0, gz_1, dvd_96, dvd_2, dvd_10000, rmd_96, rmd_8, xg_at, xg_0, mr_at, up_xg, up_mr, narz_0, narz_1, i10, i01, i11, i00, ↓reduceIte, e10, e01, e50, e51, e20, e60, e70, e30, e40, Classical.not_not, not_true_eq_false, not_false_eq_true, x_range, Int32.reduceToInt, x_state, ite_not, q1, x_back h.1 c1]
      exact AC.good hs1 ⟨iv_bck h.1 an, jv_bck h.1 h.2.1 an, kb_bck hn h.1 h.2.2 an⟩
    · simp only [c2, nm_ap, bnd_ap, bns_ap, bnx_ap0, bnx_ap1, bnx_ap2, bnx_ap3, bnx_ap4, gz_0, gz_1, dvd_96, dvd_2, dvd_10000, rmd_96, rmd_8, xg_at, xg_0, mr_at, up_xg, up_mr, narz_0, narz_1, i10, i01, i11, i00, ↓reduceIte, e10, e01, e50, e51, e20, e60, e70, e30, e40, Classical.not_not, not_true_eq_false, not_false_eq_true, x_range, Int32.reduceToInt, x_state, ite_not]
      exact AC.bad hs h (by decide)
  · simp only [if_neg c1, nm_ap, bnd_ap, bns_ap, bnx_ap0, bnx_ap1, bnx_ap2, bnx_ap3, bnx_ap4, gz_0, gz_1, dvd_96, dvd_2, dvd_10000, rmd_96, rmd_8, xg_at, xg_0, mr_at, up_xg, up_mr, narz_0, narz_1, i10, i01, i11, i00, ↓reduceIte, e10, e01, e50, e51, e20, e60, e70, e30, e40, Classical.not_not, not_true_eq_false, not_false_eq_true, x_range, Int32.reduceToInt, x_state, ite_not]
    exact AC.bad hs h (by decide)
theorem ac_visit (a b : Int32) (hs : HS σ []) (h : Gok n G) : AC (n + 1) (f11_visit a b (xg σ 8 G)) [2] := by
  unfold f11_visit
  simp only [nm_ap, x_cardq]
  by_cases c1 : 0 ≤ a.toInt ∧ a.toInt < (G 5 0).toInt
  · simp only [if_pos c1, nm_ap, bnd_ap, bns_ap, bnx_ap0, bnx_ap1, bnx_ap2, bnx_ap3, bnx_ap4, gz_0, gz_1, dvd_96, dvd_2, dvd_10000, rmd_96, rmd_8, xg_at, xg_0, mr_at, up_xg, up_mr, narz_0, narz_1, i10, i01, i11, i00, ↓reduceIte, e10, e01, e50, e51, e20, e60, e70, e30, e40, Classical.not_not, not_true_eq_false, not_false_eq_true, x_range, Int32.reduceToInt, x_state, ite_not, x_bedq]
    by_cases c2 : 0 ≤ b.toInt ∧ b.toInt < (G 3 0).toInt
    · obtain ⟨σ1, q1, hs1, -⟩ := rem_67 hs h.1 (Nat.zero_le _)
      simp only [if_pos c2, nm_ap, bnd_ap, bns_ap, bnx_ap0, bnx_ap1, bnx_ap2, bnx_ap3, bnx_ap4, gz_0, gz_1, dvd_96, dvd_2, dvd_10000, rmd_96, rmd_8, xg_at, xg_0, mr_at, up_xg, up_mr, narz_0, narz_1, i10, i01, i11, i00, ↓reduceIte, e10, e01, e50, e51, e20, e60, e70, e30, e40, Classical.not_not, not_true_eq_false, not_false_eq_true, x_range, Int32.reduceToInt, x_state, ite_not, q1, x_show h.1 c1 c2]
      exact AC.good hs1 ⟨iv_sho h.1 (by omega) (by omega) (by omega), jv_sho h.1 h.2.1 (by omega), (kb_sho h.2.2 _ _ _).le (Nat.le_succ n)⟩
    · simp only [if_neg c2, nm_ap, bnd_ap, bns_ap, bnx_ap0, bnx_ap1, bnx_ap2, bnx_ap3, bnx_ap4, gz_0, gz_1, dvd_96, dvd_2, dvd_10000, rmd_96, rmd_8, xg_at, xg_0, mr_at, up_xg, up_mr, narz_0, narz_1, i10, i01, i11, i00, ↓reduceIte, e10, e01, e50, e51, e20, e60, e70, e30, e40, Classical.not_not, not_true_eq_false, not_false_eq_true, x_range, Int32.reduceToInt, x_state, ite_not]
      exact AC.bad hs h (by decide)
  · simp only [if_neg c1, nm_ap, bnd_ap, bns_ap, bnx_ap0, bnx_ap1, bnx_ap2, bnx_ap3, bnx_ap4, gz_0, gz_1, dvd_96, dvd_2, dvd_10000, rmd_96, rmd_8, xg_at, xg_0, mr_at, up_xg, up_mr, narz_0, narz_1, i10, i01, i11, i00, ↓reduceIte, e10, e01, e50, e51, e20, e60, e70, e30, e40, Classical.not_not, not_true_eq_false, not_false_eq_true, x_range, Int32.reduceToInt, x_state, ite_not]
    exact AC.bad hs h (by decide)
theorem ac_pluck (a b : Int32) (hs : HS σ []) (h : Gok n G) : AC (n + 1) (f11_pluck a b (xg σ 8 G)) [2, 1, 3] := by
  have h0 := h.1.1
  unfold f11_pluck
  simp only [nm_ap, x_cardq]
  by_cases c1 : 0 ≤ a.toInt ∧ a.toInt < (G 5 0).toInt
  · by_cases c2 : 1 ≤ b.toInt ∧ b.toInt ≤ 9
    · simp only [if_pos c1, if_pos c2, nm_ap, bnd_ap, bns_ap, bnx_ap0, bnx_ap1, bnx_ap2, bnx_ap3, bnx_ap4, gz_0, gz_1, dvd_96, dvd_2, dvd_10000, rmd_96, rmd_8, xg_at, xg_0, mr_at, up_xg, up_mr, narz_0, narz_1, i10, i01, i11, i00, ↓reduceIte, e10, e01, e50, e51, e20, e60, e70, e30, e40, Classical.not_not, not_true_eq_false, not_false_eq_true, x_range, Int32.reduceToInt, x_state, ite_not, x_canPluck h.1 c1]
      by_cases c3 : CpP G a.toInt.toNat b
      · obtain ⟨σ1, q1, hs1, -⟩ := rem_67 hs h.1 (Nat.zero_le _)
        have h1 := h.1.k (k := a.toInt.toNat) (by omega)
        have h2 := h.1.p (p := (G 27 a.toInt.toNat).toInt.toNat) (by omega)
        have d2 := c3.2.1
        have d3 := c3.2.2
        simp only [if_pos c3, nm_ap, bnd_ap, bns_ap, bnx_ap0, bnx_ap1, bnx_ap2, bnx_ap3, bnx_ap4, gz_0, gz_1, dvd_96, dvd_2, dvd_10000, rmd_96, rmd_8, xg_at, xg_0, mr_at, up_xg, up_mr, narz_0, narz_1, i10, i01, i11, i00, ↓reduceIte, e10, e01, e50, e51, e20, e60, e70, e30, e40, Classical.not_not, not_true_eq_false, not_false_eq_true, x_range, Int32.reduceToInt, x_state, ite_not, q1, x_pluck h.1 c1 c3]
        exact AC.good hs1 ⟨iv_plk h.1 (by omega) (by omega) (by omega) d2 ⟨c2.1, d3⟩ (Fn_in h.1 c2), jv_plk h.2.1 (by omega) _ _ _, kb_id h.2.2 rfl rfl rfl⟩
      · simp only [if_neg c3, nm_ap, bnd_ap, bns_ap, bnx_ap0, bnx_ap1, bnx_ap2, bnx_ap3, bnx_ap4, gz_0, gz_1, dvd_96, dvd_2, dvd_10000, rmd_96, rmd_8, xg_at, xg_0, mr_at, up_xg, up_mr, narz_0, narz_1, i10, i01, i11, i00, ↓reduceIte, e10, e01, e50, e51, e20, e60, e70, e30, e40, Classical.not_not, not_true_eq_false, not_false_eq_true, x_range, Int32.reduceToInt, x_state, ite_not]
        exact AC.bad hs h (by decide)
    · simp only [if_pos c1, if_neg c2, nm_ap, bnd_ap, bns_ap, bnx_ap0, bnx_ap1, bnx_ap2, bnx_ap3, bnx_ap4, gz_0, gz_1, dvd_96, dvd_2, dvd_10000, rmd_96, rmd_8, xg_at, xg_0, mr_at, up_xg, up_mr, narz_0, narz_1, i10, i01, i11, i00, ↓reduceIte, e10, e01, e50, e51, e20, e60, e70, e30, e40, Classical.not_not, not_true_eq_false, not_false_eq_true, x_range, Int32.reduceToInt, x_state, ite_not]
      exact AC.bad hs h (by decide)
  · simp only [if_neg c1, nm_ap, bnd_ap, bns_ap, bnx_ap0, bnx_ap1, bnx_ap2, bnx_ap3, bnx_ap4, gz_0, gz_1, dvd_96, dvd_2, dvd_10000, rmd_96, rmd_8, xg_at, xg_0, mr_at, up_xg, up_mr, narz_0, narz_1, i10, i01, i11, i00, ↓reduceIte, e10, e01, e50, e51, e20, e60, e70, e30, e40, Classical.not_not, not_true_eq_false, not_false_eq_true, x_range, Int32.reduceToInt, x_state, ite_not]
    exact AC.bad hs h (by decide)
theorem ac_payFines (a b : Int32) (hn : n ≤ 1000) (hs : HS σ []) (h : Gok n G) : AC (n + 1) (f11_payFines a b (xg σ 8 G)) [2, 1, 3] := by
  have h0 := h.1.1
  unfold f11_payFines
  simp only [nm_ap, x_pass]
  by_cases c1 : 0 ≤ a.toInt ∧ a.toInt < (G 4 0).toInt
  · by_cases c2 : 1 ≤ b.toInt ∧ b.toInt ≤ 9999
    · have an : ((a.toInt.toNat : Nat) : Int) < (G 4 0).toInt := by omega
      have a3 : 0 ≤ a.toInt ∧ a.toInt < 30 := by omega
      have a30 : 0 ≤ a.toInt ∧ a.toInt < ((30 : Nat) : Int) := a3
      have h1 := h.1.p an
      simp only [if_pos c1, if_pos c2, nm_ap, bnd_ap, bns_ap, bnx_ap0, bnx_ap1, bnx_ap2, bnx_ap3, bnx_ap4, gz_0, gz_1, dvd_96, dvd_2, dvd_10000, rmd_96, rmd_8, xg_at, xg_0, mr_at, up_xg, up_mr, narz_0, narz_1, i10, i01, i11, i00, ↓reduceIte, e10, e01, e50, e51, e20, e60, e70, e30, e40, Classical.not_not, not_true_eq_false, not_false_eq_true, x_range, Int32.reduceToInt, x_state, ite_not, ald_in a30]
      unfold f11_payFines_b34
      by_cases c3 : G 26 a.toInt.toNat < b
      · simp only [if_pos c3, nm_ap, bnd_ap, bns_ap, bnx_ap0, bnx_ap1, bnx_ap2, bnx_ap3, bnx_ap4, gz_0, gz_1, dvd_96, dvd_2, dvd_10000, rmd_96, rmd_8, xg_at, xg_0, mr_at, up_xg, up_mr, narz_0, narz_1, i10, i01, i11, i00, ↓reduceIte, e10, e01, e50, e51, e20, e60, e70, e30, e40, Classical.not_not, not_true_eq_false, not_false_eq_true, x_range, Int32.reduceToInt, x_state, ite_not]
        exact AC.bad hs h (by decide)
      · have c3' : b.toInt ≤ (G 26 a.toInt.toNat).toInt := by rw [Int32.lt_iff_toInt_lt] at c3; omega
        obtain ⟨σ1, q1, hs1, -⟩ := rem_67 hs h.1 (Nat.zero_le _)
        simp only [if_neg c3, nm_ap, bnd_ap, bns_ap, bnx_ap0, bnx_ap1, bnx_ap2, bnx_ap3, bnx_ap4, gz_0, gz_1, dvd_96, dvd_2, dvd_10000, rmd_96, rmd_8, xg_at, xg_0, mr_at, up_xg, up_mr, narz_0, narz_1, i10, i01, i11, i00, ↓reduceIte, e10, e01, e50, e51, e20, e60, e70, e30, e40, Classical.not_not, not_true_eq_false, not_false_eq_true, x_range, Int32.reduceToInt, x_state, ite_not, q1, x_pay a3, ald_in a30]
        exact AC.good hs1 ⟨iv_pay h.1 an (by omega), jv_pay h.2.1 an b, kb_pay hn h.2.2 (by omega)⟩
    · simp only [if_pos c1, if_neg c2, nm_ap, bnd_ap, bns_ap, bnx_ap0, bnx_ap1, bnx_ap2, bnx_ap3, bnx_ap4, gz_0, gz_1, dvd_96, dvd_2, dvd_10000, rmd_96, rmd_8, xg_at, xg_0, mr_at, up_xg, up_mr, narz_0, narz_1, i10, i01, i11, i00, ↓reduceIte, e10, e01, e50, e51, e20, e60, e70, e30, e40, Classical.not_not, not_true_eq_false, not_false_eq_true, x_range, Int32.reduceToInt, x_state, ite_not]
      exact AC.bad hs h (by decide)
  · simp only [if_neg c1, nm_ap, bnd_ap, bns_ap, bnx_ap0, bnx_ap1, bnx_ap2, bnx_ap3, bnx_ap4, gz_0, gz_1, dvd_96, dvd_2, dvd_10000, rmd_96, rmd_8, xg_at, xg_0, mr_at, up_xg, up_mr, narz_0, narz_1, i10, i01, i11, i00, ↓reduceIte, e10, e01, e50, e51, e20, e60, e70, e30, e40, Classical.not_not, not_true_eq_false, not_false_eq_true, x_range, Int32.reduceToInt, x_state, ite_not]
    exact AC.bad hs h (by decide)
theorem ac_pass (a : Int32) (ha : a.toInt ≤ 150) (hs : HS σ []) (h : Gok n G) : AC (n + 1) (f11_pass a (xg σ 8 G)) [1, 3] := by
  have h0 := h.1.1
  unfold f11_pass
  simp only [nm_ap, x_range, Int32.reduceToInt]
  by_cases c1 : 1 ≤ a.toInt ∧ a.toInt ≤ 500
  · simp only [if_pos c1, nm_ap, bnd_ap, bns_ap, bnx_ap0, bnx_ap1, bnx_ap2, bnx_ap3, bnx_ap4, gz_0, gz_1, dvd_96, dvd_2, dvd_10000, rmd_96, rmd_8, xg_at, xg_0, mr_at, up_xg, up_mr, narz_0, narz_1, i10, i01, i11, i00, ↓reduceIte, e10, e01, e50, e51, e20, e60, e70, e30, e40, Classical.not_not, not_true_eq_false, not_false_eq_true, x_range, Int32.reduceToInt, x_state, ite_not, x_canGo h.1 (show 0 ≤ a.toInt ∧ a.toInt ≤ 9999 by omega)]
    by_cases c2 : (G 1 0).toInt + a.toInt ≤ 9599
    · obtain ⟨σ1, q1, hs1, -⟩ := rem_67 hs h.1 (Nat.zero_le _)
      simp only [if_pos c2, nm_ap, bnd_ap, bns_ap, bnx_ap0, bnx_ap1, bnx_ap2, bnx_ap3, bnx_ap4, gz_0, gz_1, dvd_96, dvd_2, dvd_10000, rmd_96, rmd_8, xg_at, xg_0, mr_at, up_xg, up_mr, narz_0, narz_1, i10, i01, i11, i00, ↓reduceIte, e10, e01, e50, e51, e20, e60, e70, e30, e40, Classical.not_not, not_true_eq_false, not_false_eq_true, x_range, Int32.reduceToInt, x_state, ite_not, q1, x_ticks h.1 ⟨c1.1, c2⟩]
      exact AC.good hs1 ⟨iv_tk h.1 ⟨c1.1, c2⟩, jv_tk h.1 h.2.1 a, kb_tk h.2.2 h.1 ⟨c1.1, ha⟩⟩
    · simp only [if_neg c2, nm_ap, bnd_ap, bns_ap, bnx_ap0, bnx_ap1, bnx_ap2, bnx_ap3, bnx_ap4, gz_0, gz_1, dvd_96, dvd_2, dvd_10000, rmd_96, rmd_8, xg_at, xg_0, mr_at, up_xg, up_mr, narz_0, narz_1, i10, i01, i11, i00, ↓reduceIte, e10, e01, e50, e51, e20, e60, e70, e30, e40, Classical.not_not, not_true_eq_false, not_false_eq_true, x_range, Int32.reduceToInt, x_state, ite_not]
      exact AC.bad hs h (by decide)
  · simp only [if_neg c1, nm_ap, bnd_ap, bns_ap, bnx_ap0, bnx_ap1, bnx_ap2, bnx_ap3, bnx_ap4, gz_0, gz_1, dvd_96, dvd_2, dvd_10000, rmd_96, rmd_8, xg_at, xg_0, mr_at, up_xg, up_mr, narz_0, narz_1, i10, i01, i11, i00, ↓reduceIte, e10, e01, e50, e51, e20, e60, e70, e30, e40, Classical.not_not, not_true_eq_false, not_false_eq_true, x_range, Int32.reduceToInt, x_state, ite_not]
    exact AC.bad hs h (by decide)
end ACS
