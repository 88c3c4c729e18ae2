/-! printed: the reference's cells, its constructor -/
theorem cA_rows {D : va_G} {K : Nat → ClassId} {U : State} {cA : ClassId} (h : va_K D vwCl (tyK K ++ [(cA, .array .int)]) U) : cA = K 4 := by
  have h1 : U.vm.findClass _ = some (K 4) := (h.2 4 _ rfl).2
  have h2 : U.vm.findClass _ = some cA := (h.2 6 _ rfl).2
  have e := h1.symm.trans h2
  cases e
  rfl
def KLM : List (Nat × Nat) := [(0, 0), (0, 1), (0, 2)] ++ (List.range 8).map (fun i => (0, 7 + i)) ++ [(0, 3), (0, 4), (0, 5), (0, 6)]
theorem KLM_in {g c : Nat} (h : dM g c) : (g, c) ∈ KLM := by
  obtain ⟨rfl, hc⟩ := h
  exact (by decide +kernel : ∀ c, c < 15 → (0, c) ∈ KLM) c hc
def mad (h0 qw qp qs qb qt qr : Nat) (r : Nat → Nat) : Nat → Nat → Nat := fun _ c => match c with
  | 0 => h0 | 1 => qw | 2 => qp | 3 => qs | 4 => qb | 5 => qt | 6 => qr | k + 7 => r k
def mrf (r : Nat → Nat) : Nat → Option Nat := fun i => if i < 8 then some (r i) else none
def mw_ (K : Nat → ClassId) (h0 qw qp qs qb qt qr : Nat) (r : Nat → Nat) : va_W :=
  [(h0, .inr (12, [.int 0, .ref qw, .ref qp, .int 0, .ref qs, .int 0, .ref qb, .ref qt, .int 0, .ref qr, .int 0, .int 0, .int 0, .int 0, .int 0, .int 0, .int 0, .int 0, .int (-1)])), (qw, .inl (K 0, 536, .inl z_)), (qp, .inl (K 4, 8, .inr (.inr (.inr (.inr (mrf r))))))] ++ (List.range 8).map (fun i => (r i, .inl (K 0, 536, .inl z_))) ++ [(qs, .inl (K 0, 536, .inl z_)), (qb, .inl (K 0, 536, .inl z_)), (qt, .inl (K 0, 500, .inl z_)), (qr, .inl (K 2, 14, .inl z_))]
def eM (K : Nat → ClassId) (ad : Nat → Nat → Nat) (f : Nat → Option Nat) (k : Nat × Nat) : Nat × va_E := (ad k.1 k.2, if k = (0, 2) then .inl (K 4, 8, .inr (.inr (.inr (.inr f)))) else EM K ad k.1 k.2 (τi k.1 k.2))
theorem mw_map (K : Nat → ClassId) (h0 qw qp qs qb qt qr : Nat) (r : Nat → Nat) : mw_ K h0 qw qp qs qb qt qr r = KLM.map (eM K (mad h0 qw qp qs qb qt qr r) (mrf r)) := by
  unfold mw_ KLM
  rw [List.map_append, List.map_append]
  rfl
theorem mad_h (K : Nat → ClassId) (h0 qw qp qs qb qt qr : Nat) (r : Nat → Nat) : vp_cell (K 4) (8, .inr (.inr (.inr (.inr (mrf r))))) = vp_cell (K 4) (8, .inr (.inr (.inr (.inr (fun i => some (mad h0 qw qp qs qb qt qr r 0 (τi 0 2 i).toNatClampNeg)))))) := by
  rw [vp_cell_q, vp_cell_q]
  unfold arrV
  congr 2
  funext j
  show va_rf (if j.1 < 8 then some (r j.1) else none) = va_rf (some (mad h0 qw qp qs qb qt qr r 0 (Int32.ofNat (7 + j.1)).toNatClampNeg))
  have h8 := j.2
  rw [if_pos h8, show (Int32.ofNat (7 + j.1)).toNatClampNeg = j.1 + 7 from by rw [show (Int32.ofNat (7 + j.1)) = nI (7 + j.1) from rfl, nI_clamp (by omega)]; omega]
  rfl
theorem mk_PM {Γ : Wc} {h0 qw qp qs qb qt qr : Nat} {r : Nat → Nat} {H : Heap} (h : va_P Γ.1 vwCl (mw_ Γ.2.1 h0 qw qp qs qb qt qr r) H) : PX SM Γ (mad h0 qw qp qs qb qt qr r) τi H := by
  intro g c hd
  obtain ⟨i, hi⟩ := List.getElem?_of_mem (KLM_in hd)
  have hq := h i _ (by rw [mw_map, List.getElem?_map, hi]; rfl)
  by_cases e : (g, c) = (0, 2)
  · cases e
    have h1 : H[qp]? = some (vp_cell (Γ.2.1 4) (8, .inr (.inr (.inr (.inr (mrf r)))))) := hq
    rw [mad_h Γ.2.1 h0 qw qp qs qb qt qr r] at h1
    exact h1
  · unfold eM at hq
    rw [if_neg e] at hq
    exact hq
theorem mk_AM {K : Nat → ClassId} {A : Nat → Prop} {h0 qw qp qs qb qt qr : Nat} {r : Nat → Nat} (h : va_D A (mw_ K h0 qw qp qs qb qt qr r)) : AX SM (mad h0 qw qp qs qb qt qr r) A := by
  have at' : ∀ {g c : Nat}, dM g c → ∃ i : Nat, KLM[i]? = some (g, c) ∧ (mw_ K h0 qw qp qs qb qt qr r)[i]? = some (eM K (mad h0 qw qp qs qb qt qr r) (mrf r) (g, c)) := by
    intro g c hd
    obtain ⟨i, hi⟩ := List.getElem?_of_mem (KLM_in hd)
    exact ⟨i, hi, by rw [mw_map, List.getElem?_map, hi]; rfl⟩
  refine ⟨fun g c g' c' hd hd' he => ?_, fun g c hd => ?_⟩
  · obtain ⟨i, i1, i2⟩ := at' hd
    obtain ⟨j, j1, j2⟩ := at' hd'
    have := h.1 i j _ _ i2 j2 he
    subst this
    rw [i1] at j1
    cases j1
    exact ⟨rfl, rfl⟩
  · obtain ⟨i, i1, i2⟩ := at' hd
    exact h.2 i _ i2
