/-! a new bureau's cells: the list that the constructor makes, and the picture -/
def glk (n : Nat) : List (Nat × Nat) := glo.map (fun c => (n + 1, c))
def KL : List (Nat × Nat) := [(0, 0)] ++ glk 8 ++ glk 9 ++ ([(0, 1), (0, 2)] ++ (List.range 8).flatMap glk) ++ ([(0, 3)] ++ glk 10 ++ [(0, 4), (0, 5)]) ++ [(0, 6), (0, 7)]
theorem KL_in {g c : Nat} (h : dX g c) : (g, c) ∈ KL := (by decide +kernel : ∀ k ∈ ksX, k ∈ KL) _ (ksX_in h)
def bad (h0 q5 r q9 q6 r6 q8 r8 : Nat) (a8 a9 a10 : Nat → Nat) (aa : Nat → Nat → Nat) : Nat → Nat → Nat := fun g c => match g with
  | 0 => (match c with | 0 => h0 | 1 => q5 | 2 => r | 3 => q9 | 4 => q6 | 5 => r6 | 6 => q8 | _ => r8)
  | n + 1 => if n < 8 then aa n c else if n = 8 then a8 c else if n = 9 then a9 c else a10 c
def bw (K : Nat → ClassId) (h0 q5 r q9 q6 r6 q8 r8 : Nat) (a8 a9 a10 : Nat → Nat) (aa : Nat → Nat → Nat) : va_W :=
  [(h0, .inr (11, [.ref (a8 0), .ref (a9 0), .ref q5, .ref q9, .ref q6, .ref q8, .int 0]))] ++ gl K a8 ++ gl K a9 ++ ([(q5, .inr (5, [.ref r, .int 0, .int 0])), (r, .inl (K 3, 8, .inr (.inr (.inr (.inr (hf_ 8 aa))))))] ++ hX K 8 aa) ++ ([(q9, .inr (9, [.ref (a10 0), .ref q6, .int 0, .int (-1)]))] ++ gl K a10 ++ [(q6, .inr (6, [.ref r6, .int 0, .int 0, .int 0, .int 0])), (r6, .inl (K 2, 500, .inl z_))]) ++ [(q8, .inr (8, [.ref r8, .int 0])), (r8, .inl (K 2, 14, .inl z_))]
theorem EXg_a (K : Nat → ClassId) (ad : Nat → Nat → Nat) (n c : Nat) (s : Nat → Int32) : EXg K ad n c s = EXg K (fun _ => ad (n + 1)) 0 c s := by
  unfold EXg
  split <;> rfl
def eX (K : Nat → ClassId) (ad : Nat → Nat → Nat) (f : Nat → Option Nat) (k : Nat × Nat) : Nat × va_E := (ad k.1 k.2, if k = (0, 2) then .inl (K 3, 8, .inr (.inr (.inr (.inr f)))) else EX K ad k.1 k.2 (σi k.1 k.2))
theorem glk_map (K : Nat → ClassId) (ad : Nat → Nat → Nat) (f : Nat → Option Nat) (n : Nat) : (glk n).map (eX K ad f) = gl K (ad (n + 1)) := by
  unfold glk gl
  rw [List.map_map]
  refine List.map_congr_left (fun c _ => ?_)
  show (ad (n + 1) c, _) = (ad (n + 1) c, _)
  rw [if_neg (by intro e; cases e)]
  show (ad (n + 1) c, EXg K ad n c (σi (n + 1) c)) = _
  rw [EXg_a, show σi (n + 1) c = z_ from funext fun j => if_neg (by omega)]
theorem fm_map {α β : Type} (F : α → β) (g : Nat → List α) : ∀ L : List Nat, (L.flatMap g).map F = L.flatMap (fun j => (g j).map F) := by
  intro L
  induction L with
  | nil => rfl
  | cons x xs ih => rw [List.flatMap_cons, List.flatMap_cons, List.map_append, ih]
theorem bw_map (K : Nat → ClassId) (h0 q5 r q9 q6 r6 q8 r8 : Nat) (a8 a9 a10 : Nat → Nat) (aa : Nat → Nat → Nat) : bw K h0 q5 r q9 q6 r6 q8 r8 a8 a9 a10 aa = KL.map (eX K (bad h0 q5 r q9 q6 r6 q8 r8 a8 a9 a10 aa) (hf_ 8 aa)) := by
  have e8 : bad h0 q5 r q9 q6 r6 q8 r8 a8 a9 a10 aa (8 + 1) = a8 := rfl
  have e9 : bad h0 q5 r q9 q6 r6 q8 r8 a8 a9 a10 aa (9 + 1) = a9 := rfl
  have e10 : bad h0 q5 r q9 q6 r6 q8 r8 a8 a9 a10 aa (10 + 1) = a10 := rfl
  have eh : (List.range 8).flatMap (fun j => (glk j).map (eX K (bad h0 q5 r q9 q6 r6 q8 r8 a8 a9 a10 aa) (hf_ 8 aa))) = hX K 8 aa := by
    unfold hX
    refine fm_congr _ (fun j hj => ?_)
    rw [glk_map]
    have hj8 := List.mem_range.mp hj
    have : bad h0 q5 r q9 q6 r6 q8 r8 a8 a9 a10 aa (j + 1) = aa j := funext fun c => if_pos hj8
    rw [this]
  unfold KL
  simp only [List.map_append, fm_map, glk_map, e8, e9, e10, eh]
  rfl
theorem bad_h (h0 q5 r q9 q6 r6 q8 r8 : Nat) (a8 a9 a10 : Nat → Nat) (aa : Nat → Nat → Nat) (K : Nat → ClassId) : vp_cell (K 3) (8, .inr (.inr (.inr (.inr (hf_ 8 aa))))) = vp_cell (K 3) (8, .inr (.inr (.inr (.inr (fun i => some (bad h0 q5 r q9 q6 r6 q8 r8 a8 a9 a10 aa (i + 1) 0)))))) := by
  rw [vp_cell_q, vp_cell_q]
  unfold arrV
  congr 2
  funext j
  show va_rf (if j.1 < 8 then some (aa j.1 0) else none) = va_rf (some (if j.1 < 8 then aa j.1 0 else _))
  rw [if_pos j.2, if_pos j.2]
theorem mk_PX {Γ : Wc} {h0 q5 r q9 q6 r6 q8 r8 : Nat} {a8 a9 a10 : Nat → Nat} {aa : Nat → Nat → Nat} {H : Heap} (h : va_P Γ.1 vwCl (bw Γ.2.1 h0 q5 r q9 q6 r6 q8 r8 a8 a9 a10 aa) H) : PX SX Γ (bad h0 q5 r q9 q6 r6 q8 r8 a8 a9 a10 aa) σi H := by
  intro g c hd
  obtain ⟨i, hi⟩ := List.getElem?_of_mem (KL_in hd)
  have hq := h i _ (by rw [bw_map, List.getElem?_map, hi]; rfl)
  by_cases e : (g, c) = (0, 2)
  · cases e
    have h1 : H[r]? = some (vp_cell (Γ.2.1 3) (8, .inr (.inr (.inr (.inr (hf_ 8 aa)))))) := hq
    rw [bad_h h0 q5 r q9 q6 r6 q8 r8 a8 a9 a10 aa Γ.2.1] at h1
    exact h1
  · unfold eX at hq
    rw [if_neg e] at hq
    exact hq
theorem mk_AX {K : Nat → ClassId} {A : Nat → Prop} {h0 q5 r q9 q6 r6 q8 r8 : Nat} {a8 a9 a10 : Nat → Nat} {aa : Nat → Nat → Nat} (h : va_D A (bw K h0 q5 r q9 q6 r6 q8 r8 a8 a9 a10 aa)) : AX SX (bad h0 q5 r q9 q6 r6 q8 r8 a8 a9 a10 aa) A := by
  have at' : ∀ {g c : Nat}, dX g c → ∃ i : Nat, KL[i]? = some (g, c) ∧ (bw K h0 q5 r q9 q6 r6 q8 r8 a8 a9 a10 aa)[i]? = some (eX K (bad h0 q5 r q9 q6 r6 q8 r8 a8 a9 a10 aa) (hf_ 8 aa) (g, c)) := by
    intro g c hd
    obtain ⟨i, hi⟩ := List.getElem?_of_mem (KL_in hd)
    exact ⟨i, hi, by rw [bw_map, List.getElem?_map, hi]; rfl⟩
  refine ⟨fun g c g' c' hd hd' he => ?_, fun g c hd => ?_⟩
  · obtain ⟨i, i1, i2⟩ := at' hd
    obtain ⟨j, j1, j2⟩ := at' hd'
    have := h.1 i j _ _ i2 j2 he
    subst this
    rw [i1] at j1
    cases j1
    exact ⟨rfl, rfl⟩
  · obtain ⟨i, i1, i2⟩ := at' hd
    exact h.2 i _ i2
