/-! the two systems' cells, and the rows over the heap -/
/-- a garden's cells (block n + 1), and the bureau's own (block 0) -/
def EXg (K : Nat → ClassId) (ad : Nat → Nat → Nat) (n c : Nat) (s : Nat → Int32) : va_E := match c with
  | 0 => .inr (4, [.ref (ad (n + 1) 1), .ref (ad (n + 1) 2), .ref (ad (n + 1) 3), .ref (ad (n + 1) 4), .ref (ad (n + 1) 5), .ref (ad (n + 1) 6), .int (s 6)])
  | 1 => .inr (3, [.int (s 0), .int (s 1), .int (s 2)])
  | 2 => .inr (10, [.int (s 0), .int (s 1), .ref (ad (n + 1) 7)])
  | 3 => .inr (0, [.int (s 0), .ref (ad (n + 1) 8), .ref (ad (n + 1) 9), .ref (ad (n + 1) 10), .ref (ad (n + 1) 11), .ref (ad (n + 1) 12), .ref (ad (n + 1) 13), .ref (ad (n + 1) 14)])
  | 4 => .inr (7, [.int (s 0), .ref (ad (n + 1) 15), .ref (ad (n + 1) 16), .ref (ad (n + 1) 17), .ref (ad (n + 1) 18), .ref (ad (n + 1) 19), .ref (ad (n + 1) 20), .ref (ad (n + 1) 21), .ref (ad (n + 1) 22), .ref (ad (n + 1) 23), .ref (ad (n + 1) 24), .ref (ad (n + 1) 25), .ref (ad (n + 1) 26)])
  | 5 => .inr (2, [.int (s 0), .ref (ad (n + 1) 27), .ref (ad (n + 1) 28)])
  | 6 => .inr (1, [.int (s 0), .int (s 1), .int (s 2), .int (s 3), .int (s 4), .int (s 5)])
  | 7 => .inl (K 0, 5, .inl s)
  | 8 => .inl (K 0, 8, .inl s)
  | 9 => .inl (K 0, 8, .inl s)
  | 10 => .inl (K 0, 8, .inl s)
  | 11 => .inl (K 0, 8, .inl s)
  | 12 => .inl (K 0, 8, .inl s)
  | 13 => .inl (K 0, 8, .inl s)
  | 14 => .inl (K 0, 8, .inl s)
  | 21 => .inl (K 1, 30, .inl s)
  | 27 => .inl (K 0, 50, .inl s)
  | 28 => .inl (K 1, 50, .inl s)
  | _ => .inl (K 0, 30, .inl s)
def EXr (K : Nat → ClassId) (ad : Nat → Nat → Nat) (c : Nat) (s : Nat → Int32) : va_E := match c with
  | 0 => .inr (11, [.ref (ad (8 + 1) 0), .ref (ad (9 + 1) 0), .ref (ad 0 1), .ref (ad 0 3), .ref (ad 0 4), .ref (ad 0 6), .int (s 6)])
  | 1 => .inr (5, [.ref (ad 0 2), .int (s 1), .int (s 2)])
  | 2 => .inl (K 3, 8, .inr (.inr (.inr (.inr (fun i => some (ad (i + 1) 0))))))
  | 3 => .inr (9, [.ref (ad (10 + 1) 0), .ref (ad 0 4), .int (s 2), .int (s 3)])
  | 4 => .inr (6, [.ref (ad 0 5), .int (s 1), .int (s 2), .int (s 3), .int (s 4)])
  | 5 => .inl (K 2, 500, .inl s)
  | 6 => .inr (8, [.ref (ad 0 7), .int (s 1)])
  | _ => .inl (K 2, 14, .inl s)
def EX (K : Nat → ClassId) (ad : Nat → Nat → Nat) (g c : Nat) (s : Nat → Int32) : va_E := match g with
  | 0 => EXr K ad c s
  | n + 1 => EXg K ad n c s
def dX (g c : Nat) : Prop := match g with
  | 0 => c < 8
  | n + 1 => n < 11 ∧ c < 29
abbrev SX : Sys := (EX, dX)
theorem vaP1 {D : va_G} {cl : List vw_C} {a : Nat} {e : va_E} {H : Heap} (h : va_at D cl (a, e) H) : va_P D cl [(a, e)] H := by
  intro k q hk
  have hz : k < 1 := (List.getElem?_eq_some_iff.mp hk).1
  rw [show k = 0 by omega] at hk
  cases hk
  exact h
theorem vaP2 {D : va_G} {cl : List vw_C} {x y : Nat × va_E} {H : Heap} (hx : va_at D cl x H) (hy : va_at D cl y H) : va_P D cl [x, y] H := by
  intro k q hk
  have hz : k < 2 := (List.getElem?_eq_some_iff.mp hk).1
  rcases (show k = 0 ∨ k = 1 by omega) with rfl | rfl
  · cases hk; exact hx
  · cases hk; exact hy
/-- the bureau's cells, listed -/
def ksX : List (Nat × Nat) := (List.range 8).map (fun c => (0, c)) ++ (List.range 11).flatMap (fun n => (List.range 29).map (fun c => (n + 1, c)))
theorem ksX_in {g c : Nat} (h : dX g c) : (g, c) ∈ ksX := by
  cases g with
  | zero => exact List.mem_append_left _ (List.mem_map.mpr ⟨c, List.mem_range.mpr h, rfl⟩)
  | succ n => exact List.mem_append_right _ (List.mem_flatMap.mpr ⟨n, List.mem_range.mpr h.1, List.mem_map.mpr ⟨c, List.mem_range.mpr h.2, rfl⟩⟩)
theorem ksX_out {g c : Nat} (h : (g, c) ∈ ksX) : dX g c := by
  rcases List.mem_append.mp h with h | h
  · obtain ⟨z, hz, e⟩ := List.mem_map.mp h
    cases e
    exact List.mem_range.mp hz
  · obtain ⟨n, hn, h⟩ := List.mem_flatMap.mp h
    obtain ⟨z, hz, e⟩ := List.mem_map.mp h
    cases e
    exact ⟨List.mem_range.mp hn, List.mem_range.mp hz⟩
theorem ksX_nd : ksX.Nodup := by decide +kernel
def wlX (K : Nat → ClassId) (ad : Nat → Nat → Nat) (σ : Sig) : va_W := ksX.map (fun q => (ad q.1 q.2, EX K ad q.1 q.2 (σ q.1 q.2)))
theorem wlX_P {Γ : Wc} {ad : Nat → Nat → Nat} {σ : Sig} {H : Heap} (h : PX SX Γ ad σ H) : va_P Γ.1 vwCl (wlX Γ.2.1 ad σ) H := by
  intro k q hk
  rw [wlX, List.getElem?_map] at hk
  obtain ⟨z, hz, rfl⟩ := Option.map_eq_some_iff.mp hk
  exact h z.1 z.2 (ksX_out (List.mem_of_getElem? hz))
theorem wlX_D {K : Nat → ClassId} {ad : Nat → Nat → Nat} {σ : Sig} {A : Nat → Prop} (h : AX SX ad A) : va_D A (wlX K ad σ) := by
  refine ⟨fun i j x y hi hj hxy => ?_, fun k q hk => ?_⟩
  · rw [wlX, List.getElem?_map] at hi hj
    obtain ⟨z, hz, rfl⟩ := Option.map_eq_some_iff.mp hi
    obtain ⟨z', hz', rfl⟩ := Option.map_eq_some_iff.mp hj
    have e := h.1 _ _ _ _ (ksX_out (List.mem_of_getElem? hz)) (ksX_out (List.mem_of_getElem? hz')) hxy
    have e2 : z = z' := Prod.ext e.1 e.2
    subst e2
    exact (List.getElem?_inj (List.getElem?_eq_some_iff.mp hz).1 ksX_nd).mp (hz.trans hz'.symm)
  · rw [wlX, List.getElem?_map] at hk
    obtain ⟨z, hz, rfl⟩ := Option.map_eq_some_iff.mp hk
    exact h.2 _ _ (ksX_out (List.mem_of_getElem? hz))
section FR2
variable {p : Program} {l : Launch} {e : Env} {R : Room} {s : State} {m : MethodId} {args : Array Value} {below : List Frame} {meth : Method} {c : Code} {H : Heap} {locs : List Loc} {cells slots : Nat} {Q : State → Prop}
variable {cc : ByteArray} {pc nL : Nat} {ls : Array Slot} {rest st : List Value} {Y : Sys} {Γ : Wc} {ad : Nat → Nat → Nat} {A : Nat → Prop} {σ σ' : Sig} {own : String} {ρ : Type} {res : ρ}
theorem CX.hts (cx : CX Y Γ ad A own cc nL p s m args c) : ∀ w ∈ gw, w.before args s = true := cx.2.2.2.2.1
theorem CX.hown (cx : CX Y Γ ad A own cc nL p s m args c) : s.vm.findClass own = some m.cls := cx.2.2.2.1
theorem CX.hK (cx : CX Y Γ ad A own cc nL p s m args c) : va_K Γ.1 vwCl (tyK Γ.2.1) s := cx.2.2.2.2.2.1
theorem CX.hA (cx : CX Y Γ ad A own cc nL p s m args c) : AX Y ad A := cx.2.2.2.2.2.2.1
theorem CX.hZ (cx : CX Y Γ ad A own cc nL p s m args c) : ZH Γ A s s.heap := cx.2.2.2.2.2.2.2.1
theorem CX.hV (cx : CX Y Γ ad A own cc nL p s m args c) : ZV Γ s := cx.2.2.2.2.2.2.2.2
theorem CX.pre (cx : CX Y Γ ad A own cc nL p s m args c) (hP : PS Y Γ ad A s σ H locs) {U : State} (hU : U.heap = H) (hW : s.WarmedH U.vm) : Pre Y Γ ad A σ U :=
  ⟨by rw [hU]; exact hP.1, va_K.moved hW.alike cx.hK, cx.hA, by rw [hU]; exact (cx.hZ.kept hP.2.2.1).moved hW.alike, cx.hV.warm hW⟩
theorem r_get (cx : CX Y Γ ad A own cc nL p s m args c) (hP : PS Y Γ ad A s σ H locs) {g k0 ci N index : Nat} {fs : List Value} {C : String} {T : u_T} (hd : Y.2 g k0) (he : Y.1 Γ.2.1 ad g k0 (σ g k0) = .inr (ci, fs)) (hc : vwCl[ci]? = some (C, T, N)) (hin : ∀ w ∈ u_ws C T N, w ∈ gw) (k : Nat) (hk : k < N) (hlink : Cond.fieldLink own index C (T k).2.1 (T k).2.2.1 ∈ gw) (hC : (T k).1 = C) {v : Value} (hv : fs[k]? = some v) (d : decode cc pc = .ok (.getfield index, 3))
    (kk : W p l e R s m args below meth c H locs cells slots Q (F0 m (pc + 3) ls (v :: rest))) : W p l e R s m args below meth c H locs cells slots Q (F0 m pc ls (.ref (ad g k0) :: rest)) :=
  va_get cx.1 cx.2.1 cx.hts hin cx.hown cx.hK (vaP1 (e := .inr (ci, fs)) (he ▸ hP.1 g k0 hd)) 0 rfl hc k hk (cx.hts _ hlink) (fun x h => by rw [hC] at h; exact h) hv d kk
theorem r_put (cx : CX Y Γ ad A own cc nL p s m args c) (hP : PS Y Γ ad A s σ H locs) {g k0 ci N index : Nat} {fs : List Value} {C : String} {T : u_T} (hd : Y.2 g k0) (he : Y.1 Γ.2.1 ad g k0 (σ g k0) = .inr (ci, fs)) (hc : vwCl[ci]? = some (C, T, N)) (hin : ∀ w ∈ u_ws C T N, w ∈ gw) (ty0 : Nat → FieldType) (hty : ∀ k, k < N → parseFieldDescriptor (T k).2.2.1 = some (ty0 k)) (hnm : ∀ a, a < N → ∀ b, b < N → a ≠ b → (T a).2.1 ≠ (T b).2.1) (k : Nat) (hk : k < N) (hlink : Cond.fieldLink own index C (T k).2.1 (T k).2.2.1 ∈ gw) (hC : (T k).1 = C) (hfin : (T k).2.2.2 = false) {x : Int32} (hn : narrow (ty0 k) (.int x) = .int x) (hfit : fits (ty0 k) (.int x) = true) (hl : k < fs.length) (he' : Y.1 Γ.2.1 ad g k0 (upd (σ g k0) k x) = .inr (ci, fs.set k (.int x))) (d : decode cc pc = .ok (.putfield index, 3)) {B : Sig → Option ρ} (hF : nm (up σ g k0 k x) B = some res)
    (kk : ∀ (σ1 : Sig) (H1 : Heap) (locs1 : List Loc), PS Y Γ ad A s σ1 H1 locs1 → B σ1 = some res → W p l e R s m args below meth c H1 locs1 cells slots Q (F0 m (pc + 3) ls rest)) : W p l e R s m args below meth c H locs cells slots Q (F0 m pc ls (.int x :: .ref (ad g k0) :: rest)) := by
  have hap := va_apart (own := own) cx.hts hin ty0 hty hnm cx.hK hc
  have h0 := hP.1 g k0 hd
  rw [he] at h0
  obtain ⟨r, h1, cell, q1, q2, q3, q4⟩ := h0
  have hr : r = (C, T, N) := Option.some.inj (h1.symm.trans hc)
  subst hr
  obtain ⟨hS, hfc, kC, hkC, hkind⟩ := cx.hK.1 ci _ hc
  obtain ⟨cf, kf, fi, f, hi, hsl⟩ := hS k hk
  have hlay := cx.hts _ (hin _ (u_in_lay hk))
  unfold u_lay at hlay
  rw [if_neg (by rw [hfin]; decide)] at hlay
  have hst := (u_facts hfc hkC (u_lays cx.hts hin hk) hi).1
  have h6 := u_store hfc hkC hkind hlay hi (hty k hk) hn hfit
  refine W.putK cx.1 cx.2.1 (f := f) ⟨cx.hown, cx.hts _ hlink, ⟨_, _, _, by rw [hC] at hi; exact hi⟩, hst⟩ (by rw [q2]; exact h6) q1 q3 (by rw [hsl]; exact k2_hasslot (q4 k hk)) rfl rfl d fun H' e1 e2 e3 => ?_
  rw [hsl] at e1 ⊢
  refine kk _ H' _ ⟨?_, hP.2.put e2 e3 (cx.hA.2 g k0 hd)⟩ hF
  rw [up_ur]
  refine hP.1.put cx.hA hd ?_ e3
  rw [he']
  exact ⟨_, hc, t_OB.to (V := updV (vp_V fs) k (.int x)) ⟨_, e1, q2, q3, t_set q4 hap hk (.int x)⟩ (fun j _ => vp_updV_set hl (.int x) j)⟩
theorem r_iald (cx : CX Y Γ ad A own cc nL p s m args c) (hP : PS Y Γ ad A s σ H locs) {g k0 n : Nat} (hd : Y.2 g k0) (he : Y.1 Γ.2.1 ad g k0 (σ g k0) = .inl (Γ.2.1 0, n, .inl (σ g k0))) {i : Int32} (d : decode cc pc = .ok (.iaload, 1)) {B : Int32 → Option ρ} (hF : ald (σ g k0) n i B = some res)
    (kk : ∀ v, B v = some res → W p l e R s m args below meth c H locs cells slots Q (F0 m (pc + 1) ls (.int v :: rest))) : W p l e R s m args below meth c H locs cells slots Q (F0 m pc ls (.int i :: .ref (ad g k0) :: rest)) :=
  va_iald cx.1 cx.2.1 cx.hK (vaP1 (e := .inl (Γ.2.1 0, n, .inl (σ g k0))) (he ▸ hP.1 g k0 hd)) 0 0 rfl rfl (ald_some hF).1 d (kk _ (ald_some hF).2)
theorem r_zald (cx : CX Y Γ ad A own cc nL p s m args c) (hP : PS Y Γ ad A s σ H locs) {g k0 n : Nat} (hd : Y.2 g k0) (he : Y.1 Γ.2.1 ad g k0 (σ g k0) = .inl (Γ.2.1 1, n, .inl (σ g k0))) {i : Int32} (d : decode cc pc = .ok (.baload, 1)) {B : Int32 → Option ρ} (hF : ald (σ g k0) n i B = some res)
    (kk : ∀ v, B v = some res → W p l e R s m args below meth c H locs cells slots Q (F0 m (pc + 1) ls (.int v :: rest))) : W p l e R s m args below meth c H locs cells slots Q (F0 m pc ls (.int i :: .ref (ad g k0) :: rest)) :=
  va_zald cx.1 cx.2.1 cx.hK (vaP1 (e := .inl (Γ.2.1 1, n, .inl (σ g k0))) (he ▸ hP.1 g k0 hd)) 0 1 rfl rfl (ald_some hF).1 d (kk _ (ald_some hF).2)
theorem r_bald (cx : CX Y Γ ad A own cc nL p s m args c) (hP : PS Y Γ ad A s σ H locs) {g k0 n : Nat} (hd : Y.2 g k0) (he : Y.1 Γ.2.1 ad g k0 (σ g k0) = .inl (Γ.2.1 2, n, .inl (σ g k0))) {i : Int32} (d : decode cc pc = .ok (.baload, 1)) {B : Int32 → Option ρ} (hF : ald (σ g k0) n i B = some res)
    (kk : ∀ v, B v = some res → W p l e R s m args below meth c H locs cells slots Q (F0 m (pc + 1) ls (.int v :: rest))) : W p l e R s m args below meth c H locs cells slots Q (F0 m pc ls (.int i :: .ref (ad g k0) :: rest)) :=
  va_bald cx.1 cx.2.1 cx.hK (vaP1 (e := .inl (Γ.2.1 2, n, .inl (σ g k0))) (he ▸ hP.1 g k0 hd)) 0 2 rfl rfl (ald_some hF).1 d (kk _ (ald_some hF).2)
theorem r_aald (cx : CX Y Γ ad A own cc nL p s m args c) (hP : PS Y Γ ad A s σ H locs) {g k0 n t : Nat} {f : Nat → Option Nat} {ty : FieldType} (hd : Y.2 g k0) (he : Y.1 Γ.2.1 ad g k0 (σ g k0) = .inl (Γ.2.1 t, n, .inr (.inr (.inr (.inr f))))) (ht : (tyK Γ.2.1)[t]? = some (Γ.2.1 t, ty)) (hty : ty.isReference = true) {i : Int32} (d : decode cc pc = .ok (.aaload, 1)) {B : Nat → Option ρ} (hF : alr n i B = some res)
    (kk : ∀ j, j < n → j = i.toNatClampNeg → B j = some res → W p l e R s m args below meth c H locs cells slots Q (F0 m (pc + 1) ls (va_rf (f j) :: rest))) : W p l e R s m args below meth c H locs cells slots Q (F0 m pc ls (.int i :: .ref (ad g k0) :: rest)) := by
  have hin := (alr_some hF).1
  have hlt : i.toNatClampNeg < n := Nat.not_le.mp fun q => hin (Or.inr q)
  have h0 : va_at Γ.1 vwCl (ad g k0, .inl (Γ.2.1 t, n, .inr (.inr (.inr (.inr f))))) H := he ▸ hP.1 g k0 hd
  exact W.aald (v := va_rf (f i.toNatClampNeg)) (ty := ty) cx.1 cx.2.1 h0 ((cx.hK.2 t _ ht).1 n (fun j => va_rf (f j))) hty (fun q => by cases q) (by show ¬ (i < 0 ∨ (arrV _ _ _).slots.size ≤ _); rw [arrV_size]; exact hin) (by show (arrV _ _ _).slots[_]? = _; rw [arrV_read _ _ hlt]) rfl rfl d (kk _ hlt rfl (alr_some hF).2)
theorem arr_upd (cA : ClassId) (n : Nat) (f : Nat → Int32) (j : Nat) (x : Int32) : (vp_cell cA (n, .inl f)).setSlot j (.int x) = vp_cell cA (n, .inl (upd f j x)) := by
  rw [vp_cell_i, vp_cell_i, arrV_store]
  congr 2
  funext q
  by_cases hq : q = j
  · subst hq
    simp [updV, upd]
  · simp [updV, upd, hq]
theorem nar_z (x : Int32) : narrow .boolean (.int x) = .int (vp_nar .boolean x) := by first | rfl | simp [vp_nar, narrow]
theorem nar_b (x : Int32) : narrow .byte (.int x) = .int (vp_nar .byte x) := by first | rfl | simp [vp_nar, narrow]
theorem r_iast (cx : CX Y Γ ad A own cc nL p s m args c) (hP : PS Y Γ ad A s σ H locs) {g k0 n : Nat} (hd : Y.2 g k0) (he : ∀ f, Y.1 Γ.2.1 ad g k0 f = .inl (Γ.2.1 0, n, .inl f)) {i x : Int32} (d : decode cc pc = .ok (.iastore, 1)) {B : Sig → Option ρ} (hF : ast σ g k0 n i x B = some res)
    (kk : ∀ (σ1 : Sig) (H1 : Heap) (locs1 : List Loc), PS Y Γ ad A s σ1 H1 locs1 → B σ1 = some res → W p l e R s m args below meth c H1 locs1 cells slots Q (F0 m (pc + 1) ls rest)) : W p l e R s m args below meth c H locs cells slots Q (F0 m pc ls (.int x :: .int i :: .ref (ad g k0) :: rest)) := by
  have hin := (ast_some hF).1
  have h0 : va_at Γ.1 vwCl (ad g k0, .inl (Γ.2.1 0, n, .inl (σ g k0))) H := he _ ▸ hP.1 g k0 hd
  refine W.iast cx.1 cx.2.1 h0 ((cx.hK.2 0 _ rfl).1 n (fun j => .int (σ g k0 j))) (fun q => by cases q) (by show ¬ (i < 0 ∨ (arrV _ _ _).slots.size ≤ _); rw [arrV_size]; exact hin) rfl rfl d fun H1 e1 z oq => ?_
  refine kk _ H1 _ ⟨?_, hP.2.put z oq (cx.hA.2 g k0 hd)⟩ (ast_some hF).2
  rw [up_ur]
  refine hP.1.put cx.hA hd ?_ oq
  rw [he]
  exact e1.trans (congrArg some (arr_upd _ _ _ _ _))
theorem r_zast (cx : CX Y Γ ad A own cc nL p s m args c) (hP : PS Y Γ ad A s σ H locs) {g k0 n : Nat} (hd : Y.2 g k0) (he : ∀ f, Y.1 Γ.2.1 ad g k0 f = .inl (Γ.2.1 1, n, .inl f)) {i x : Int32} (d : decode cc pc = .ok (.bastore, 1)) {B : Sig → Option ρ} (hF : ast σ g k0 n i (vp_nar .boolean x) B = some res)
    (kk : ∀ (σ1 : Sig) (H1 : Heap) (locs1 : List Loc), PS Y Γ ad A s σ1 H1 locs1 → B σ1 = some res → W p l e R s m args below meth c H1 locs1 cells slots Q (F0 m (pc + 1) ls rest)) : W p l e R s m args below meth c H locs cells slots Q (F0 m pc ls (.int x :: .int i :: .ref (ad g k0) :: rest)) := by
  have hin := (ast_some hF).1
  have h0 : va_at Γ.1 vwCl (ad g k0, .inl (Γ.2.1 1, n, .inl (σ g k0))) H := he _ ▸ hP.1 g k0 hd
  refine W.zast cx.1 cx.2.1 h0 ((cx.hK.2 1 _ rfl).1 n (fun j => .int (σ g k0 j))) (fun q => by cases q) (by show ¬ (i < 0 ∨ (arrV _ _ _).slots.size ≤ _); rw [arrV_size]; exact hin) rfl rfl d fun H1 e1 z oq => ?_
  refine kk _ H1 _ ⟨?_, hP.2.put z oq (cx.hA.2 g k0 hd)⟩ (ast_some hF).2
  rw [up_ur]
  refine hP.1.put cx.hA hd ?_ oq
  rw [he]
  rw [nar_z] at e1
  exact e1.trans (congrArg some (arr_upd _ _ _ _ _))
theorem r_bast (cx : CX Y Γ ad A own cc nL p s m args c) (hP : PS Y Γ ad A s σ H locs) {g k0 n : Nat} (hd : Y.2 g k0) (he : ∀ f, Y.1 Γ.2.1 ad g k0 f = .inl (Γ.2.1 2, n, .inl f)) {i x : Int32} (d : decode cc pc = .ok (.bastore, 1)) {B : Sig → Option ρ} (hF : ast σ g k0 n i (vp_nar .byte x) B = some res)
    (kk : ∀ (σ1 : Sig) (H1 : Heap) (locs1 : List Loc), PS Y Γ ad A s σ1 H1 locs1 → B σ1 = some res → W p l e R s m args below meth c H1 locs1 cells slots Q (F0 m (pc + 1) ls rest)) : W p l e R s m args below meth c H locs cells slots Q (F0 m pc ls (.int x :: .int i :: .ref (ad g k0) :: rest)) := by
  have hin := (ast_some hF).1
  have h0 : va_at Γ.1 vwCl (ad g k0, .inl (Γ.2.1 2, n, .inl (σ g k0))) H := he _ ▸ hP.1 g k0 hd
  refine W.bast cx.1 cx.2.1 h0 ((cx.hK.2 2 _ rfl).1 n (fun j => .int (σ g k0 j))) (fun q => by cases q) (by show ¬ (i < 0 ∨ (arrV _ _ _).slots.size ≤ _); rw [arrV_size]; exact hin) rfl rfl d fun H1 e1 z oq => ?_
  refine kk _ H1 _ ⟨?_, hP.2.put z oq (cx.hA.2 g k0 hd)⟩ (ast_some hF).2
  rw [up_ur]
  refine hP.1.put cx.hA hd ?_ oq
  rw [he]
  rw [nar_b] at e1
  exact e1.trans (congrArg some (arr_upd _ _ _ _ _))
-- calls
/-- the words of a virtual call, of a static one -/
def MWv (own : String) (index : Nat) (y : MethodName) (bytes : ByteArray) (maxL : Nat) (ret : Option FieldType) (n : Nat) : Prop := Cond.methodLink own index y ∈ gw ∧ Cond.instanceMethod y ∈ gw ∧ Cond.selects y.cls y y ∈ gw ∧ Cond.initialized y.cls ∈ gw ∧ Cond.code y bytes maxL ret ∈ gw ∧ y.cls ≠ "java/lang/invoke/MethodHandle" ∧ y.cls ≠ "java/lang/invoke/VarHandle" ∧ (parseMethodDescriptor y.desc).map (fun d => d.parameters.length) = some n
def MWs (own : String) (index : Nat) (y : MethodName) (bytes : ByteArray) (maxL : Nat) (ret : Option FieldType) (n : Nat) : Prop := Cond.methodLink own index y ∈ gw ∧ Cond.static y ∈ gw ∧ Cond.initialized y.cls ∈ gw ∧ Cond.code y bytes maxL ret ∈ gw ∧ y.cls ≠ "java/lang/invoke/MethodHandle" ∧ y.cls ≠ "java/lang/invoke/VarHandle" ∧ (parseMethodDescriptor y.desc).map (fun d => d.parameters.length) = some n
theorem MWv.callB {index maxL n fr lo mc ms : Nat} {y : MethodName} {bytes : ByteArray} {ret : Option FieldType} (cx : CX Y Γ ad A own cc nL p s m args c) (h : MWv own index y bytes maxL ret n) (hR : fr + 1 ≤ R.frames ∧ 8 + (maxL + 11) + lo ≤ R.locals) : CallW R s args own y.cls index y bytes maxL ret (Wsd y bytes maxL ret) { frames := fr, cells := mc, slots := ms, locals := lo } mc ms n := by
  obtain ⟨h1, h2, h3, h4, h5, h6, h7, h8⟩ := h
  exact ⟨callB_of n cx.hts (gw_cons h5) rfl rfl rfl (cx.hts _ h4) (cx.hts _ h1) ⟨h6, h7, h8⟩ hR, cx.hts _ h2, cx.hts _ h3⟩
theorem MWs.callB {index maxL n fr lo mc ms : Nat} {y : MethodName} {bytes : ByteArray} {ret : Option FieldType} (cx : CX Y Γ ad A own cc nL p s m args c) (h : MWs own index y bytes maxL ret n) (hR : fr + 1 ≤ R.frames ∧ 8 + (maxL + 11) + lo ≤ R.locals) : CallB R s args own index y bytes maxL ret (Wsd y bytes maxL ret) { frames := fr, cells := mc, slots := ms, locals := lo } mc ms n ∧ (Cond.static y).before args s = true := by
  obtain ⟨h1, h2, h3, h4, h6, h7, h8⟩ := h
  exact ⟨callB_of n cx.hts (gw_cons h4) rfl rfl rfl (cx.hts _ h3) (cx.hts _ h1) ⟨h6, h7, h8⟩ hR, cx.hts _ h2⟩
theorem fixOf (cx : CX Y Γ ad A own cc nL p s m args c) : CallFix p m c cc nL s args gw own := ⟨cx.1, cx.2.1, cx.2.2.1, cx.hown, cx.hts⟩
theorem recvOf (cx : CX Y Γ ad A own cc nL p s m args c) (hP : PS Y Γ ad A s σ H locs) {g k0 ci N : Nat} {fs : List Value} {C : String} {T : u_T} (hd : Y.2 g k0) (he : Y.1 Γ.2.1 ad g k0 (σ g k0) = .inr (ci, fs)) (hc : vwCl[ci]? = some (C, T, N)) : ∃ cell : Cell, H[ad g k0]? = some cell ∧ cell.vm.isStatics = false ∧ s.vm.findClass C = some cell.cls :=
  va_recv (q := (C, T, N)) cx.hK (vaP1 (e := .inr (ci, fs)) (he ▸ hP.1 g k0 hd)) hc (q0 := 0) rfl
theorem r_callVi (cx : CX Y Γ ad A own cc nL p s m args c) (hP : PS Y Γ ad A s σ H locs) {fr lo maxL index g k0 ci N : Nat} {y : MethodName} {bytes : ByteArray} {ret : Option FieldType} {r : Int32} {As : List Value} {fs : List Value} {T : u_T} (hM : MI l Y Γ ad A y bytes maxL ret fr lo (.ref (ad g k0) :: As) σ r σ') (hw : MWv own index y bytes maxL ret As.length) (hR : fr + 1 ≤ R.frames ∧ 8 + (maxL + 11) + lo ≤ R.locals) (hd : Y.2 g k0) (he : Y.1 Γ.2.1 ad g k0 (σ g k0) = .inr (ci, fs)) (hc : vwCl[ci]? = some (y.cls, T, N)) (hst : st = As.reverse ++ .ref (ad g k0) :: rest) (hrs : (rest.map fun v => v.category).sum ≤ 8) (hsz : ls.size = nL) (hcs : cells ≤ R.cells ∧ slots ≤ R.slots) (d : decode cc pc = .ok (.invokevirtual index, 3))
    (kk : ∀ (H1 : Heap) (locs1 : List Loc), PS Y Γ ad A s σ' H1 locs1 → W p l e R s m args below meth c H1 locs1 cells slots Q (F0 m (pc + 3) ls (.int r :: rest))) : W p l e R s m args below meth c H locs cells slots Q (F0 m pc ls st) := by
  refine va_calli (va_runV (As := As) (rest := rest) (fixOf cx) hM (hw.callB cx hR) ⟨Pre.blind, recvOf cx hP hd he hc, fun U hU hW => ⟨rfl, cx.pre hP hU hW⟩⟩ rfl rfl hsz hst (lv_room hrs) d hcs) hP.2 (fun q _ h => h) (fun q h => h) (fun r' u t H1 locs1 ht hvm hw hB hz1 hk1 hS => ?_)
  subst hw
  exact kk H1 locs1 ⟨by rw [← ht]; exact hB, hS⟩
theorem r_callVv (cx : CX Y Γ ad A own cc nL p s m args c) (hP : PS Y Γ ad A s σ H locs) {fr lo maxL index g k0 ci N : Nat} {y : MethodName} {bytes : ByteArray} {As : List Value} {fs : List Value} {T : u_T} (hM : MV l Y Γ ad A y bytes maxL fr lo (.ref (ad g k0) :: As) σ σ') (hw : MWv own index y bytes maxL none As.length) (hR : fr + 1 ≤ R.frames ∧ 8 + (maxL + 11) + lo ≤ R.locals) (hd : Y.2 g k0) (he : Y.1 Γ.2.1 ad g k0 (σ g k0) = .inr (ci, fs)) (hc : vwCl[ci]? = some (y.cls, T, N)) (hst : st = As.reverse ++ .ref (ad g k0) :: rest) (hrs : (rest.map fun v => v.category).sum ≤ 8) (hsz : ls.size = nL) (hcs : cells ≤ R.cells ∧ slots ≤ R.slots) (d : decode cc pc = .ok (.invokevirtual index, 3))
    (kk : ∀ (H1 : Heap) (locs1 : List Loc), PS Y Γ ad A s σ' H1 locs1 → W p l e R s m args below meth c H1 locs1 cells slots Q (F0 m (pc + 3) ls rest)) : W p l e R s m args below meth c H locs cells slots Q (F0 m pc ls st) := by
  refine va_callv (va_runV (As := As) (rest := rest) (fixOf cx) hM (hw.callB cx hR) ⟨Pre.blind, recvOf cx hP hd he hc, fun U hU hW => ⟨rfl, cx.pre hP hU hW⟩⟩ rfl rfl hsz hst (lv_room hrs) d hcs) hP.2 (fun q _ h => h) (fun q h => h) (fun u t H1 locs1 ht hvm hw hB hz1 hk1 hS => ?_)
  exact kk H1 locs1 ⟨by rw [← ht]; exact hB, hS⟩
theorem r_callSi (cx : CX Y Γ ad A own cc nL p s m args c) (hP : PS Y Γ ad A s σ H locs) {fr lo maxL index : Nat} {y : MethodName} {bytes : ByteArray} {ret : Option FieldType} {r : Int32} {As : List Value} (hM : MI l Y Γ ad A y bytes maxL ret fr lo As σ r σ') (hw : MWs own index y bytes maxL ret As.length) (hR : fr + 1 ≤ R.frames ∧ 8 + (maxL + 11) + lo ≤ R.locals) (hst : st = As.reverse ++ rest) (hrs : (rest.map fun v => v.category).sum ≤ 8) (hsz : ls.size = nL) (hcs : cells ≤ R.cells ∧ slots ≤ R.slots) (d : decode cc pc = .ok (.invokestatic index, 3))
    (kk : ∀ (H1 : Heap) (locs1 : List Loc), PS Y Γ ad A s σ' H1 locs1 → W p l e R s m args below meth c H1 locs1 cells slots Q (F0 m (pc + 3) ls (.int r :: rest))) : W p l e R s m args below meth c H locs cells slots Q (F0 m pc ls st) := by
  refine va_calli (va_runS (As := As) (rest := rest) (fixOf cx) hM (hw.callB cx hR) ⟨Pre.blind, fun U hU hW => ⟨rfl, cx.pre hP hU hW⟩⟩ rfl rfl hsz hst (lv_room hrs) d hcs) hP.2 (fun q _ h => h) (fun q h => h) (fun r' u t H1 locs1 ht hvm hw hB hz1 hk1 hS => ?_)
  subst hw
  exact kk H1 locs1 ⟨by rw [← ht]; exact hB, hS⟩
theorem r_callSv (cx : CX Y Γ ad A own cc nL p s m args c) (hP : PS Y Γ ad A s σ H locs) {fr lo maxL index : Nat} {y : MethodName} {bytes : ByteArray} {As : List Value} (hM : MV l Y Γ ad A y bytes maxL fr lo As σ σ') (hw : MWs own index y bytes maxL none As.length) (hR : fr + 1 ≤ R.frames ∧ 8 + (maxL + 11) + lo ≤ R.locals) (hst : st = As.reverse ++ rest) (hrs : (rest.map fun v => v.category).sum ≤ 8) (hsz : ls.size = nL) (hcs : cells ≤ R.cells ∧ slots ≤ R.slots) (d : decode cc pc = .ok (.invokestatic index, 3))
    (kk : ∀ (H1 : Heap) (locs1 : List Loc), PS Y Γ ad A s σ' H1 locs1 → W p l e R s m args below meth c H1 locs1 cells slots Q (F0 m (pc + 3) ls rest)) : W p l e R s m args below meth c H locs cells slots Q (F0 m pc ls st) := by
  refine va_callv (va_runS (As := As) (rest := rest) (fixOf cx) hM (hw.callB cx hR) ⟨Pre.blind, fun U hU hW => ⟨rfl, cx.pre hP hU hW⟩⟩ rfl rfl hsz hst (lv_room hrs) d hcs) hP.2 (fun q _ h => h) (fun q h => h) (fun u t H1 locs1 ht hvm hw hB hz1 hk1 hS => ?_)
  exact kk H1 locs1 ⟨by rw [← ht]; exact hB, hS⟩
-- the ends
theorem r_iret (cx : CX Y Γ ad A own cc nL p s m args c) (hP : PS Y Γ ad A s σ H locs) (hr : meth.sig.returnType = some .int) (hlocks : meth.locks = false) {v r : Int32} {σ1 : Sig} (d : decode cc pc = .ok (.ireturn, 1)) (hF : some (v, σ) = some (r, σ1)) : W p l e R s m args below meth c H locs cells slots (MQ below (va_Qi (fun r' (_ : Unit) => r' = r) (fun _ t => PX Y Γ ad σ1 t.heap) A) args s cells slots A) (F0 m pc ls [.int v]) := by
  cases hF
  exact W.iret (v := v) cx.1 cx.2.1 hr (fun t ht hW => ⟨⟨v, (), rfl, rfl, by show PX Y Γ ad σ t.heap; rw [ht]; exact hP.1⟩, hP.2.F ht⟩) hP.2.2.2 d hlocks
theorem r_zret (cx : CX Y Γ ad A own cc nL p s m args c) (hP : PS Y Γ ad A s σ H locs) {ty : FieldType} (hr : meth.sig.returnType = some ty) (hlocks : meth.locks = false) {v r : Int32} {σ1 : Sig} (hn : narrow ty (.int v) = .int v) (d : decode cc pc = .ok (.ireturn, 1)) (hF : some (v, σ) = some (r, σ1)) : W p l e R s m args below meth c H locs cells slots (MQ below (va_Qi (fun r' (_ : Unit) => r' = r) (fun _ t => PX Y Γ ad σ1 t.heap) A) args s cells slots A) (F0 m pc ls [.int v]) := by
  cases hF
  exact W.zret (v := v) cx.1 cx.2.1 hr hn (fun t ht hW => ⟨⟨v, (), rfl, rfl, by show PX Y Γ ad σ t.heap; rw [ht]; exact hP.1⟩, hP.2.F ht⟩) hP.2.2.2 d hlocks
theorem r_vret (cx : CX Y Γ ad A own cc nL p s m args c) (hP : PS Y Γ ad A s σ H locs) (hr : meth.sig.returnType = none) (hlocks : meth.locks = false) {σ1 : Sig} (d : decode cc pc = .ok (.return_, 1)) (hF : some σ = some σ1) : W p l e R s m args below meth c H locs cells slots (MQ below (va_Qv (fun _ : Unit => True) (fun _ t => PX Y Γ ad σ1 t.heap) A) args s cells slots A) (F0 m pc ls []) := by
  cases hF
  exact W.vret cx.1 cx.2.1 hr (fun t ht hW => ⟨⟨(), rfl, trivial, by show PX Y Γ ad σ t.heap; rw [ht]; exact hP.1⟩, hP.2.F ht⟩) hP.2.2.2 d hlocks
theorem nar_gz {v : Int32} (h : v = v &&& 1) : narrow .boolean (.int v) = .int v := by
  rw [nar_z]
  have : vp_nar .boolean v = v &&& 1 := by first | rfl | simp [vp_nar, narrow]
  rw [this, ← h]
-- Math.min, max; arraycopy
theorem r_mmin (cx : CX Y Γ ad A own cc nL p s m args c) {index : Nat} (hw : Cond.methodLink own index Lib.Math.min.name ∈ gw ∧ Cond.static Lib.Math.min.name ∈ gw ∧ Cond.initialized "java/lang/Math" ∈ gw ∧ Cond.code Lib.Math.min.name Lib.Math.min.code 2 (some .int) ∈ gw) (hR : 1 ≤ R.frames ∧ (rest.map fun v => v.category).sum + 13 ≤ R.locals) (hcs : cells ≤ R.cells ∧ slots ≤ R.slots) (hsz : ls.size = nL) {x y : Int32} (d : decode cc pc = .ok (.invokestatic index, 3)) {B : Int32 → Option ρ} (hF : nm (if y < x then y else x) B = some res)
    (kk : ∀ v, B v = some res → W p l e R s m args below meth c H locs cells slots Q (F0 m (pc + 3) ls (.int v :: rest))) : W p l e R s m args below meth c H locs cells slots Q (F0 m pc ls (.int y :: .int x :: rest)) :=
  va_mmin cx.1 cx.2.1 (by rw [cx.2.2.1, hsz]) cx.hown (cx.hts _ hw.1) (cx.hts _ hw.2.1) (cx.hts _ hw.2.2.1) (cx.hts _ hw.2.2.2) hR.1 hR.2 hcs.1 hcs.2 d (kk _ hF)
theorem r_mmax (cx : CX Y Γ ad A own cc nL p s m args c) {index : Nat} (hw : Cond.methodLink own index Lib.Math.max.name ∈ gw ∧ Cond.static Lib.Math.max.name ∈ gw ∧ Cond.initialized "java/lang/Math" ∈ gw ∧ Cond.code Lib.Math.max.name Lib.Math.max.code 2 (some .int) ∈ gw) (hR : 1 ≤ R.frames ∧ (rest.map fun v => v.category).sum + 13 ≤ R.locals) (hcs : cells ≤ R.cells ∧ slots ≤ R.slots) (hsz : ls.size = nL) {x y : Int32} (d : decode cc pc = .ok (.invokestatic index, 3)) {B : Int32 → Option ρ} (hF : nm (if x < y then y else x) B = some res)
    (kk : ∀ v, B v = some res → W p l e R s m args below meth c H locs cells slots Q (F0 m (pc + 3) ls (.int v :: rest))) : W p l e R s m args below meth c H locs cells slots Q (F0 m pc ls (.int y :: .int x :: rest)) :=
  va_mmax cx.1 cx.2.1 (by rw [cx.2.2.1, hsz]) cx.hown (cx.hts _ hw.1) (cx.hts _ hw.2.1) (cx.hts _ hw.2.2.1) (cx.hts _ hw.2.2.2) hR.1 hR.2 hcs.1 hcs.2 d (kk _ hF)
theorem acp_some {β : Type} {g k0 n g' k1 n' : Nat} {sp dp k : Int32} {f : Sig → Option β} {r : β} (h : acp σ g k0 n g' k1 n' sp dp k f = some r) : ¬ sp < 0 ∧ ¬ dp < 0 ∧ ¬ k < 0 ∧ sp.toNatClampNeg + k.toNatClampNeg ≤ n ∧ dp.toNatClampNeg + k.toNatClampNeg ≤ n' ∧ f (ur σ g' k1 (va_cpy (σ g k0) (σ g' k1) sp.toNatClampNeg dp.toNatClampNeg k.toNatClampNeg)) = some r := by
  unfold acp at h
  split at h
  · cases h
  · rename_i hn
    simp only [not_or, Nat.not_lt] at hn
    exact ⟨hn.1, hn.2.1, hn.2.2.1, hn.2.2.2.1, hn.2.2.2.2, h⟩
theorem r_acopy (cx : CX SX Γ ad A own cc nL p s m args c) (hP : PS SX Γ ad A s σ H locs) {index : Nat} (hw : Cond.methodLink own index arraycopyName ∈ gw ∧ Cond.native arraycopyName ∈ gw ∧ Cond.static arraycopyName ∈ gw ∧ Cond.initialized "java/lang/System" ∈ gw) {g k0 n g' k1 n' : Nat} (hd : dX g k0) (hd' : dX g' k1) (he : EX Γ.2.1 ad g k0 (σ g k0) = .inl (Γ.2.1 0, n, .inl (σ g k0))) (he' : ∀ f, EX Γ.2.1 ad g' k1 f = .inl (Γ.2.1 0, n', .inl f)) {sp dp k : Int32} (hR : 1 ≤ R.frames ∧ (rest.map fun v => v.category).sum + (nativeFrameWords "java/lang/System" "arraycopy" 5 + 11) ≤ R.locals) (hsz : ls.size = nL) (d : decode cc pc = .ok (.invokestatic index, 3)) {B : Sig → Option ρ} (hF : acp σ g k0 n g' k1 n' sp dp k B = some res)
    (kk : ∀ (σ1 : Sig) (H1 : Heap) (locs1 : List Loc), PS SX Γ ad A s σ1 H1 locs1 → B σ1 = some res → W p l e R s m args below meth c H1 locs1 cells slots Q (F0 m (pc + 3) ls rest)) : W p l e R s m args below meth c H locs cells slots Q (F0 m pc ls (.int k :: .int dp :: .ref (ad g' k1) :: .int sp :: .ref (ad g k0) :: rest)) := by
  obtain ⟨h1, h2, h3, h4, h5, hB⟩ := acp_some hF
  obtain ⟨q0, hq0⟩ := List.getElem?_of_mem (ksX_in hd)
  obtain ⟨q1, hq1⟩ := List.getElem?_of_mem (ksX_in hd')
  have at0 : ∀ {j g c : Nat}, ksX[j]? = some (g, c) → (wlX Γ.2.1 ad σ)[j]? = some (ad g c, EX Γ.2.1 ad g c (σ g c)) := fun h => by rw [wlX, List.getElem?_map, h]; rfl
  have hw0 := at0 hq0
  have hw1 := at0 hq1
  rw [he] at hw0
  rw [he'] at hw1
  refine va_copyi (ty := .int) cx.1 cx.2.1 (by rw [cx.2.2.1, hsz]) cx.hown (cx.hts _ hw.1) (cx.hts _ hw.2.1) (cx.hts _ hw.2.2.1) (cx.hts _ hw.2.2.2) cx.hK (wlX_P hP.1) (wlX_D cx.hA) hP.2 q0 q1 0 0 hw0 hw1 rfl rfl rfl h1 h2 h3 h4 h5 (fun _ _ => rfl) hR.1 hR.2 d (fun H1 locs1 hP1 hD1 hS1 => ?_)
  refine kk _ H1 locs1 ⟨fun g2 c2 hd2 => ?_, hS1⟩ hB
  have hl1 := (List.getElem?_eq_some_iff.mp hw1).1
  by_cases e2 : g2 = g' ∧ c2 = k1
  · obtain ⟨rfl, rfl⟩ := e2
    rw [ur_self]
    show va_at _ _ (_, EX _ _ _ _ _) _
    rw [he']
    exact hP1 q1 _ (List.getElem?_set_self hl1)
  · rw [ur_ne _ _ e2]
    obtain ⟨q2, hq2⟩ := List.getElem?_of_mem (ksX_in hd2)
    have hne : q1 ≠ q2 := fun z => e2 (by rw [z, hq2] at hq1; cases hq1; exact ⟨rfl, rfl⟩)
    exact hP1 q2 _ (by rw [List.getElem?_set_ne hne]; exact at0 hq2)
end FR2
theorem MI.of {l : Launch} {Y : Sys} {Γ : Wc} {ad : Nat → Nat → Nat} {A : Nat → Prop} {y : MethodName} {cc : ByteArray} {nL : Nat} {ret : Option FieldType} {fr lo : Nat} {av : List Value} {σ σ' : Sig} {r : Int32} (hy : plainName y.cls = true) (hn : (lg_sl av).length ≤ nL)
    (body : ∀ (p : Program) (e : Env) (s : State) (m : MethodId) (args : Array Value) (below : List Frame) (meth : Method) (c : Code) (ls : Array Slot), CX Y Γ ad A y.cls cc nL p s m args c → meth.sig.returnType = ret → meth.locks = false → PS Y Γ ad A s σ s.heap [] → lv_has ls nL (lv_args 0 av) → W p l e { frames := fr, cells := 0, slots := 0, locals := lo } s m args below meth c s.heap [] 0 0 (MQ below (va_Qi (fun r' (_ : Unit) => r' = r) (fun _ t => PX Y Γ ad σ' t.heap) A) args s 0 0 A) (F0 m 0 ls [])) : MI l Y Γ ad A y cc nL ret fr lo av σ r σ' := by
  refine Met.ofW (cc := cc) (maxL := nL) (ret := ret) hy rfl ?_
  intro p e s m args below meth c s₁ B hml hv
  obtain ⟨rfl, hX, hK, hA, hZ, hV⟩ := hv
  rw [lg_entry_eq]
  exact body p e s m _ below meth c _ ⟨B.exec, B.bytes, hml, findClass_of_methodNamed B.named, fun w hw => atoms_spec (ws := Wsd y cc nL ret) B.pre w (List.mem_cons_of_mem _ hw), hK, hA, hZ, hV⟩ B.returns B.notSynchronized ⟨hX, va_S.rf⟩ (lv_entry av hn)
theorem MV.of {l : Launch} {Y : Sys} {Γ : Wc} {ad : Nat → Nat → Nat} {A : Nat → Prop} {y : MethodName} {cc : ByteArray} {nL : Nat} {fr lo : Nat} {av : List Value} {σ σ' : Sig} (hy : plainName y.cls = true) (hn : (lg_sl av).length ≤ nL)
    (body : ∀ (p : Program) (e : Env) (s : State) (m : MethodId) (args : Array Value) (below : List Frame) (meth : Method) (c : Code) (ls : Array Slot), CX Y Γ ad A y.cls cc nL p s m args c → meth.sig.returnType = none → meth.locks = false → PS Y Γ ad A s σ s.heap [] → lv_has ls nL (lv_args 0 av) → W p l e { frames := fr, cells := 0, slots := 0, locals := lo } s m args below meth c s.heap [] 0 0 (MQ below (va_Qv (fun _ : Unit => True) (fun _ t => PX Y Γ ad σ' t.heap) A) args s 0 0 A) (F0 m 0 ls [])) : MV l Y Γ ad A y cc nL fr lo av σ σ' := by
  refine Met.ofW (cc := cc) (maxL := nL) (ret := none) hy rfl ?_
  intro p e s m args below meth c s₁ B hml hv
  obtain ⟨rfl, hX, hK, hA, hZ, hV⟩ := hv
  rw [lg_entry_eq]
  exact body p e s m _ below meth c _ ⟨B.exec, B.bytes, hml, findClass_of_methodNamed B.named, fun w hw => atoms_spec (ws := Wsd y cc nL none) B.pre w (List.mem_cons_of_mem _ hw), hK, hA, hZ, hV⟩ B.returns B.notSynchronized ⟨hX, va_S.rf⟩ (lv_entry av hn)
