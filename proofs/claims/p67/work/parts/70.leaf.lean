/-! printed: the leaf classes' constructors -/
theorem cA_int {D : va_G} {K : Nat → ClassId} {U : State} {cA : ClassId} (h : va_K D vwCl (tyK K ++ [(cA, .int)]) U) : cA = K 0 := by
  have h1 : U.vm.findClass _ = some (K 0) := (h.2 0 _ rfl).2
  have h2 : U.vm.findClass _ = some cA := (h.2 4 _ rfl).2
  have e := h1.symm.trans h2
  cases e
  rfl
theorem cA_boolean {D : va_G} {K : Nat → ClassId} {U : State} {cA : ClassId} (h : va_K D vwCl (tyK K ++ [(cA, .boolean)]) U) : cA = K 1 := by
  have h1 : U.vm.findClass _ = some (K 1) := (h.2 1 _ rfl).2
  have h2 : U.vm.findClass _ = some cA := (h.2 4 _ rfl).2
  have e := h1.symm.trans h2
  cases e
  rfl
theorem cA_byte {D : va_G} {K : Nat → ClassId} {U : State} {cA : ClassId} (h : va_K D vwCl (tyK K ++ [(cA, .byte)]) U) : cA = K 2 := by
  have h1 : U.vm.findClass _ = some (K 2) := (h.2 2 _ rfl).2
  have h2 : U.vm.findClass _ = some cA := (h.2 4 _ rfl).2
  have e := h1.symm.trans h2
  cases e
  rfl
/-- a constructor's contract: out of the world w0 (the fresh cell h0) comes a world of which P1 speaks -/
def MN (l : Launch) (D : va_G) (K : Nat → ClassId) (y : MethodName) (cc : ByteArray) (nL fr lo mc ms h0 : Nat) (w0 : va_W) (sz : Nat) (P1 : va_W → Prop) : Prop :=
  Met l y (Wsd y cc nL none) { frames := fr, cells := mc, slots := ms, locals := lo } (va_Pc [.ref h0] (fun U => U.heap.size = sz ∧ va_P D vwCl w0 U.heap ∧ va_K D vwCl (tyK K) U ∧ va_D (fun _ => True) w0)) (va_Qv (fun _ : Unit => True) (fun _ t => ∃ w1, P1 w1 ∧ va_P D vwCl w1 t.heap ∧ va_D (va_A w0 sz) w1) (va_A w0 sz)) mc ms (va_A w0 sz)
def z_ : Nat → Int32 := fun _ => 0
def PN3 (K : Nat → ClassId) (h0 : Nat) (w1 : va_W) : Prop := w1 = [(h0, .inr (3, [.int 0, .int 0, .int 0]))]
set_option maxHeartbeats 4000000 in
set_option maxRecDepth 100000 in
theorem wn3 (l : Launch) (D : va_G) (K : Nat → ClassId) (h0 sz : Nat) : MN l D K yX3_init cX3_init 1 1 14 0 0 h0 [(h0, .inr (3, [.int 0, .int 0, .int 0]))] sz (PN3 K h0) := by
  refine Met.ofW (cc := cX3_init) (maxL := 1) (ret := none) (by decide) rfl ?_
  intro p e s m args below meth c s₁ B hml hv
  obtain ⟨rfl, hsz, hP, hK, hD0⟩ := hv
  have hx := B.exec
  have hb := B.bytes
  have hr := B.returns
  have hts := atoms_spec (ws := Wsd yX3_init cX3_init 1 none) B.pre
  have hown : s.vm.findClass RX3 = some m.cls := findClass_of_methodNamed B.named
  have hin : meth.name = "<init>" := (name_of_methodNamed B.named B.method).1
  subst hsz
  have hD := hD0.self (sz := s.heap.size)
  generalize hAe : va_A [(h0, .inr (3, [.int 0, .int 0, .int 0]))] s.heap.size = A at hD ⊢
  have hA : ∀ q : Nat, s.heap.size ≤ q → A q := fun q h => by rw [← hAe]; exact Or.inr h
  have hS : va_S A s.heap s.heap [] := va_S.rf
  have hP : va_P D vwCl [(h0, .inr (3, [.int 0, .int 0, .int 0]))] s.heap := hP
  have hl := lv_entry ([.ref h0]) (n := 1) (Nat.le_of_ble_eq_true rfl)
  rw [lg_entry_eq]
  generalize (lg_sl ([.ref h0]) ++ List.replicate (1 - (lg_sl ([.ref h0])).length) Slot.unset).toArray = ls at hl ⊢
  have hl : lv_has ls 1 [(0, .ref h0)] := hl
  refine lv_aload_n hx hb dX3_init_0 rfl (lv_at hl 0 rfl) ?_
  refine W.objInit hx hb hown (hts (.methodLink RX3 3 objectInit) (List.mem_cons_of_mem _ (gw_t (tin1 (List.mem_of_getElem? (i := 50) rfl)) rfl))) (hts (.instanceMethod objectInit) (List.mem_cons_of_mem _ (gw_t (tin1 (List.mem_of_getElem? (i := 37) rfl)) rfl))) (hts (.code objectInit ⟨#[0xb1]⟩ 1 none) (List.mem_cons_of_mem _ (gw_t (tin1 (List.mem_of_getElem? (i := 38) rfl)) rfl))) rfl (by rw [hml]; exact hl.1) rfl dX3_init_1 (Nat.le_of_ble_eq_true rfl) (Nat.le_of_ble_eq_true rfl) ?_
  refine W.eq (g2 := F0 m 4 ls []) rfl ?_
  refine W.widen (k := 0) (n := 0) (Nat.le_of_ble_eq_true rfl) (Nat.le_of_ble_eq_true rfl) ?_
  exact W.vret hx hb hr (fun t ht hW => ⟨⟨(), rfl, trivial, _, rfl, by rw [ht]; exact hP, hD⟩, hS.F ht⟩) hS.2.2 dX3_init_4
def PN1 (K : Nat → ClassId) (h0 : Nat) (w1 : va_W) : Prop := w1 = [(h0, .inr (1, [.int 0, .int 0, .int 0, .int 0, .int 0, .int 0]))]
set_option maxHeartbeats 4000000 in
set_option maxRecDepth 100000 in
theorem wn1 (l : Launch) (D : va_G) (K : Nat → ClassId) (h0 sz : Nat) : MN l D K yX1_init cX1_init 1 1 14 0 0 h0 [(h0, .inr (1, [.int 0, .int 0, .int 0, .int 0, .int 0, .int 0]))] sz (PN1 K h0) := by
  refine Met.ofW (cc := cX1_init) (maxL := 1) (ret := none) (by decide) rfl ?_
  intro p e s m args below meth c s₁ B hml hv
  obtain ⟨rfl, hsz, hP, hK, hD0⟩ := hv
  have hx := B.exec
  have hb := B.bytes
  have hr := B.returns
  have hts := atoms_spec (ws := Wsd yX1_init cX1_init 1 none) B.pre
  have hown : s.vm.findClass RX1 = some m.cls := findClass_of_methodNamed B.named
  have hin : meth.name = "<init>" := (name_of_methodNamed B.named B.method).1
  subst hsz
  have hD := hD0.self (sz := s.heap.size)
  generalize hAe : va_A [(h0, .inr (1, [.int 0, .int 0, .int 0, .int 0, .int 0, .int 0]))] s.heap.size = A at hD ⊢
  have hA : ∀ q : Nat, s.heap.size ≤ q → A q := fun q h => by rw [← hAe]; exact Or.inr h
  have hS : va_S A s.heap s.heap [] := va_S.rf
  have hP : va_P D vwCl [(h0, .inr (1, [.int 0, .int 0, .int 0, .int 0, .int 0, .int 0]))] s.heap := hP
  have hl := lv_entry ([.ref h0]) (n := 1) (Nat.le_of_ble_eq_true rfl)
  rw [lg_entry_eq]
  generalize (lg_sl ([.ref h0]) ++ List.replicate (1 - (lg_sl ([.ref h0])).length) Slot.unset).toArray = ls at hl ⊢
  have hl : lv_has ls 1 [(0, .ref h0)] := hl
  refine lv_aload_n hx hb dX1_init_0 rfl (lv_at hl 0 rfl) ?_
  refine W.objInit hx hb hown (hts (.methodLink RX1 1 objectInit) (List.mem_cons_of_mem _ (gw_t (tin1 (List.mem_of_getElem? (i := 219) rfl)) rfl))) (hts (.instanceMethod objectInit) (List.mem_cons_of_mem _ (gw_t (tin1 (List.mem_of_getElem? (i := 37) rfl)) rfl))) (hts (.code objectInit ⟨#[0xb1]⟩ 1 none) (List.mem_cons_of_mem _ (gw_t (tin1 (List.mem_of_getElem? (i := 38) rfl)) rfl))) rfl (by rw [hml]; exact hl.1) rfl dX1_init_1 (Nat.le_of_ble_eq_true rfl) (Nat.le_of_ble_eq_true rfl) ?_
  refine W.eq (g2 := F0 m 4 ls []) rfl ?_
  refine W.widen (k := 0) (n := 0) (Nat.le_of_ble_eq_true rfl) (Nat.le_of_ble_eq_true rfl) ?_
  exact W.vret hx hb hr (fun t ht hW => ⟨⟨(), rfl, trivial, _, rfl, by rw [ht]; exact hP, hD⟩, hS.F ht⟩) hS.2.2 dX1_init_4
def PN10 (K : Nat → ClassId) (h0 : Nat) (w1 : va_W) : Prop := ∃ q1 : Nat, w1 = [(h0, .inr (10, [.int 0, .int 0, .ref q1])), (q1, .inl (K 0, 5, .inl z_))]
set_option maxHeartbeats 4000000 in
set_option maxRecDepth 100000 in
theorem wn10 (l : Launch) (D : va_G) (K : Nat → ClassId) (h0 sz : Nat) : MN l D K yX10_init cX10_init 1 1 14 1 5 h0 [(h0, .inr (10, [.int 0, .int 0, .null]))] sz (PN10 K h0) := by
  refine Met.ofW (cc := cX10_init) (maxL := 1) (ret := none) (by decide) rfl ?_
  intro p e s m args below meth c s₁ B hml hv
  obtain ⟨rfl, hsz, hP, hK, hD0⟩ := hv
  have hx := B.exec
  have hb := B.bytes
  have hr := B.returns
  have hts := atoms_spec (ws := Wsd yX10_init cX10_init 1 none) B.pre
  have hown : s.vm.findClass RX10 = some m.cls := findClass_of_methodNamed B.named
  have hin : meth.name = "<init>" := (name_of_methodNamed B.named B.method).1
  subst hsz
  have hD := hD0.self (sz := s.heap.size)
  generalize hAe : va_A [(h0, .inr (10, [.int 0, .int 0, .null]))] s.heap.size = A at hD ⊢
  have hA : ∀ q : Nat, s.heap.size ≤ q → A q := fun q h => by rw [← hAe]; exact Or.inr h
  have hS : va_S A s.heap s.heap [] := va_S.rf
  have hP : va_P D vwCl [(h0, .inr (10, [.int 0, .int 0, .null]))] s.heap := hP
  have hl := lv_entry ([.ref h0]) (n := 1) (Nat.le_of_ble_eq_true rfl)
  rw [lg_entry_eq]
  generalize (lg_sl ([.ref h0]) ++ List.replicate (1 - (lg_sl ([.ref h0])).length) Slot.unset).toArray = ls at hl ⊢
  have hl : lv_has ls 1 [(0, .ref h0)] := hl
  refine lv_aload_n hx hb dX10_init_0 rfl (lv_at hl 0 rfl) ?_
  refine W.objInit hx hb hown (hts (.methodLink RX10 3 objectInit) (List.mem_cons_of_mem _ (gw_t (tin1 (List.mem_of_getElem? (i := 68) rfl)) rfl))) (hts (.instanceMethod objectInit) (List.mem_cons_of_mem _ (gw_t (tin1 (List.mem_of_getElem? (i := 37) rfl)) rfl))) (hts (.code objectInit ⟨#[0xb1]⟩ 1 none) (List.mem_cons_of_mem _ (gw_t (tin1 (List.mem_of_getElem? (i := 38) rfl)) rfl))) rfl (by rw [hml]; exact hl.1) rfl dX10_init_1 (Nat.le_of_ble_eq_true rfl) (Nat.le_of_ble_eq_true rfl) ?_
  refine W.eq (g2 := F0 m 4 ls []) rfl ?_
  refine lv_aload_n hx hb dX10_init_4 rfl (lv_at hl 0 rfl) ?_
  refine lv_iconst (v := 5) hx hb dX10_init_5 (by decide) ?_
  refine va_newa (atype := .int) (ty := .int) (a0 := (5, .inl z_)) hx hb (hts (.arrayClass .int) (List.mem_cons_of_mem _ (gw_t (tin1 (List.mem_of_getElem? (i := 83) rfl)) rfl))) rfl hK hP hD hS hA (fun cA => rfl) (by decide) (N' := 5) (by decide) (Nat.le_of_ble_eq_true rfl) (Nat.le_of_ble_eq_true rfl) (Nat.le_of_ble_eq_true rfl) dX10_init_6 (fun q1 cA H hK1 hP hD hS => ?_)
  have ec := cA_int hK1
  subst ec
  have hP : va_P D vwCl [(h0, .inr (10, [.int 0, .int 0, .null])), (q1, .inl (K 0, 5, .inl z_))] H := hP
  have hD : va_D A [(h0, .inr (10, [.int 0, .int 0, .null])), (q1, .inl (K 0, 5, .inl z_))] := hD
  refine va_putF (D := D) (ci := 10) (v := .ref q1) (ty := .array .int) (C := RX10) (T := TX10) (N := 3) hx hb hts (fun w h => List.mem_cons_of_mem _ (inX10 w h)) tyX10 tyX10_ok nmX10 hown hK hP hD hS 0 rfl rfl 2 (by decide) (hts _ (List.mem_cons_of_mem _ (gw_t (tin1 (List.mem_of_getElem? (i := 74) rfl)) rfl))) (fun _ h9 => h9) rfl hin rfl (by decide +kernel) rfl rfl (Nat.le_of_ble_eq_true rfl) dX10_init_8 (fun H locs hP hD hS => ?_)
  have hP : va_P D vwCl [(h0, .inr (10, [.int 0, .int 0, .ref q1])), (q1, .inl (K 0, 5, .inl z_))] H := hP
  have hD : va_D A [(h0, .inr (10, [.int 0, .int 0, .ref q1])), (q1, .inl (K 0, 5, .inl z_))] := hD
  refine W.widen (k := 1) (n := 5) (Nat.le_of_ble_eq_true rfl) (Nat.le_of_ble_eq_true rfl) ?_
  exact W.vret hx hb hr (fun t ht hW => ⟨⟨(), rfl, trivial, _, ⟨q1, rfl⟩, by rw [ht]; exact hP, hD⟩, hS.F ht⟩) hS.2.2 dX10_init_11
def PN0 (K : Nat → ClassId) (h0 : Nat) (w1 : va_W) : Prop := ∃ q1 q2 q3 q4 q5 q6 q7 : Nat, w1 = [(h0, .inr (0, [.int 0, .ref q1, .ref q2, .ref q3, .ref q4, .ref q5, .ref q6, .ref q7])), (q1, .inl (K 0, 8, .inl z_)), (q2, .inl (K 0, 8, .inl z_)), (q3, .inl (K 0, 8, .inl z_)), (q4, .inl (K 0, 8, .inl z_)), (q5, .inl (K 0, 8, .inl z_)), (q6, .inl (K 0, 8, .inl z_)), (q7, .inl (K 0, 8, .inl z_))]
set_option maxHeartbeats 4000000 in
set_option maxRecDepth 100000 in
theorem wn0 (l : Launch) (D : va_G) (K : Nat → ClassId) (h0 sz : Nat) : MN l D K yX0_init cX0_init 1 1 14 7 56 h0 [(h0, .inr (0, [.int 0, .null, .null, .null, .null, .null, .null, .null]))] sz (PN0 K h0) := by
  refine Met.ofW (cc := cX0_init) (maxL := 1) (ret := none) (by decide) rfl ?_
  intro p e s m args below meth c s₁ B hml hv
  obtain ⟨rfl, hsz, hP, hK, hD0⟩ := hv
  have hx := B.exec
  have hb := B.bytes
  have hr := B.returns
  have hts := atoms_spec (ws := Wsd yX0_init cX0_init 1 none) B.pre
  have hown : s.vm.findClass RX0 = some m.cls := findClass_of_methodNamed B.named
  have hin : meth.name = "<init>" := (name_of_methodNamed B.named B.method).1
  subst hsz
  have hD := hD0.self (sz := s.heap.size)
  generalize hAe : va_A [(h0, .inr (0, [.int 0, .null, .null, .null, .null, .null, .null, .null]))] s.heap.size = A at hD ⊢
  have hA : ∀ q : Nat, s.heap.size ≤ q → A q := fun q h => by rw [← hAe]; exact Or.inr h
  have hS : va_S A s.heap s.heap [] := va_S.rf
  have hP : va_P D vwCl [(h0, .inr (0, [.int 0, .null, .null, .null, .null, .null, .null, .null]))] s.heap := hP
  have hl := lv_entry ([.ref h0]) (n := 1) (Nat.le_of_ble_eq_true rfl)
  rw [lg_entry_eq]
  generalize (lg_sl ([.ref h0]) ++ List.replicate (1 - (lg_sl ([.ref h0])).length) Slot.unset).toArray = ls at hl ⊢
  have hl : lv_has ls 1 [(0, .ref h0)] := hl
  refine lv_aload_n hx hb dX0_init_0 rfl (lv_at hl 0 rfl) ?_
  refine W.objInit hx hb hown (hts (.methodLink RX0 3 objectInit) (List.mem_cons_of_mem _ (gw_t (tin1 (List.mem_of_getElem? (i := 89) rfl)) rfl))) (hts (.instanceMethod objectInit) (List.mem_cons_of_mem _ (gw_t (tin1 (List.mem_of_getElem? (i := 37) rfl)) rfl))) (hts (.code objectInit ⟨#[0xb1]⟩ 1 none) (List.mem_cons_of_mem _ (gw_t (tin1 (List.mem_of_getElem? (i := 38) rfl)) rfl))) rfl (by rw [hml]; exact hl.1) rfl dX0_init_1 (Nat.le_of_ble_eq_true rfl) (Nat.le_of_ble_eq_true rfl) ?_
  refine W.eq (g2 := F0 m 4 ls []) rfl ?_
  refine lv_aload_n hx hb dX0_init_4 rfl (lv_at hl 0 rfl) ?_
  refine lv_bipush (v := 8) hx hb dX0_init_5 (by decide) ?_
  refine va_newa (atype := .int) (ty := .int) (a0 := (8, .inl z_)) hx hb (hts (.arrayClass .int) (List.mem_cons_of_mem _ (gw_t (tin1 (List.mem_of_getElem? (i := 83) rfl)) rfl))) rfl hK hP hD hS hA (fun cA => rfl) (by decide) (N' := 8) (by decide) (Nat.le_of_ble_eq_true rfl) (Nat.le_of_ble_eq_true rfl) (Nat.le_of_ble_eq_true rfl) dX0_init_7 (fun q1 cA H hK1 hP hD hS => ?_)
  have ec := cA_int hK1
  subst ec
  have hP : va_P D vwCl [(h0, .inr (0, [.int 0, .null, .null, .null, .null, .null, .null, .null])), (q1, .inl (K 0, 8, .inl z_))] H := hP
  have hD : va_D A [(h0, .inr (0, [.int 0, .null, .null, .null, .null, .null, .null, .null])), (q1, .inl (K 0, 8, .inl z_))] := hD
  refine va_putF (D := D) (ci := 0) (v := .ref q1) (ty := .array .int) (C := RX0) (T := TX0) (N := 8) hx hb hts (fun w h => List.mem_cons_of_mem _ (inX0 w h)) tyX0 tyX0_ok nmX0 hown hK hP hD hS 0 rfl rfl 1 (by decide) (hts _ (List.mem_cons_of_mem _ (gw_t (tin1 (List.mem_of_getElem? (i := 94) rfl)) rfl))) (fun _ h9 => h9) rfl hin rfl (by decide +kernel) rfl rfl (Nat.le_of_ble_eq_true rfl) dX0_init_9 (fun H locs hP hD hS => ?_)
  have hP : va_P D vwCl [(h0, .inr (0, [.int 0, .ref q1, .null, .null, .null, .null, .null, .null])), (q1, .inl (K 0, 8, .inl z_))] H := hP
  have hD : va_D A [(h0, .inr (0, [.int 0, .ref q1, .null, .null, .null, .null, .null, .null])), (q1, .inl (K 0, 8, .inl z_))] := hD
  refine lv_aload_n hx hb dX0_init_12 rfl (lv_at hl 0 rfl) ?_
  refine lv_bipush (v := 8) hx hb dX0_init_13 (by decide) ?_
  refine va_newa (atype := .int) (ty := .int) (a0 := (8, .inl z_)) hx hb (hts (.arrayClass .int) (List.mem_cons_of_mem _ (gw_t (tin1 (List.mem_of_getElem? (i := 83) rfl)) rfl))) rfl hK hP hD hS hA (fun cA => rfl) (by decide) (N' := 8) (by decide) (Nat.le_of_ble_eq_true rfl) (Nat.le_of_ble_eq_true rfl) (Nat.le_of_ble_eq_true rfl) dX0_init_15 (fun q2 cA H hK1 hP hD hS => ?_)
  have ec := cA_int hK1
  subst ec
  have hP : va_P D vwCl [(h0, .inr (0, [.int 0, .ref q1, .null, .null, .null, .null, .null, .null])), (q1, .inl (K 0, 8, .inl z_)), (q2, .inl (K 0, 8, .inl z_))] H := hP
  have hD : va_D A [(h0, .inr (0, [.int 0, .ref q1, .null, .null, .null, .null, .null, .null])), (q1, .inl (K 0, 8, .inl z_)), (q2, .inl (K 0, 8, .inl z_))] := hD
  refine va_putF (D := D) (ci := 0) (v := .ref q2) (ty := .array .int) (C := RX0) (T := TX0) (N := 8) hx hb hts (fun w h => List.mem_cons_of_mem _ (inX0 w h)) tyX0 tyX0_ok nmX0 hown hK hP hD hS 0 rfl rfl 2 (by decide) (hts _ (List.mem_cons_of_mem _ (gw_t (tin1 (List.mem_of_getElem? (i := 96) rfl)) rfl))) (fun _ h9 => h9) rfl hin rfl (by decide +kernel) rfl rfl (Nat.le_of_ble_eq_true rfl) dX0_init_17 (fun H locs hP hD hS => ?_)
  have hP : va_P D vwCl [(h0, .inr (0, [.int 0, .ref q1, .ref q2, .null, .null, .null, .null, .null])), (q1, .inl (K 0, 8, .inl z_)), (q2, .inl (K 0, 8, .inl z_))] H := hP
  have hD : va_D A [(h0, .inr (0, [.int 0, .ref q1, .ref q2, .null, .null, .null, .null, .null])), (q1, .inl (K 0, 8, .inl z_)), (q2, .inl (K 0, 8, .inl z_))] := hD
  refine lv_aload_n hx hb dX0_init_20 rfl (lv_at hl 0 rfl) ?_
  refine lv_bipush (v := 8) hx hb dX0_init_21 (by decide) ?_
  refine va_newa (atype := .int) (ty := .int) (a0 := (8, .inl z_)) hx hb (hts (.arrayClass .int) (List.mem_cons_of_mem _ (gw_t (tin1 (List.mem_of_getElem? (i := 83) rfl)) rfl))) rfl hK hP hD hS hA (fun cA => rfl) (by decide) (N' := 8) (by decide) (Nat.le_of_ble_eq_true rfl) (Nat.le_of_ble_eq_true rfl) (Nat.le_of_ble_eq_true rfl) dX0_init_23 (fun q3 cA H hK1 hP hD hS => ?_)
  have ec := cA_int hK1
  subst ec
  have hP : va_P D vwCl [(h0, .inr (0, [.int 0, .ref q1, .ref q2, .null, .null, .null, .null, .null])), (q1, .inl (K 0, 8, .inl z_)), (q2, .inl (K 0, 8, .inl z_)), (q3, .inl (K 0, 8, .inl z_))] H := hP
  have hD : va_D A [(h0, .inr (0, [.int 0, .ref q1, .ref q2, .null, .null, .null, .null, .null])), (q1, .inl (K 0, 8, .inl z_)), (q2, .inl (K 0, 8, .inl z_)), (q3, .inl (K 0, 8, .inl z_))] := hD
  refine va_putF (D := D) (ci := 0) (v := .ref q3) (ty := .array .int) (C := RX0) (T := TX0) (N := 8) hx hb hts (fun w h => List.mem_cons_of_mem _ (inX0 w h)) tyX0 tyX0_ok nmX0 hown hK hP hD hS 0 rfl rfl 3 (by decide) (hts _ (List.mem_cons_of_mem _ (gw_t (tin1 (List.mem_of_getElem? (i := 97) rfl)) rfl))) (fun _ h9 => h9) rfl hin rfl (by decide +kernel) rfl rfl (Nat.le_of_ble_eq_true rfl) dX0_init_25 (fun H locs hP hD hS => ?_)
  have hP : va_P D vwCl [(h0, .inr (0, [.int 0, .ref q1, .ref q2, .ref q3, .null, .null, .null, .null])), (q1, .inl (K 0, 8, .inl z_)), (q2, .inl (K 0, 8, .inl z_)), (q3, .inl (K 0, 8, .inl z_))] H := hP
  have hD : va_D A [(h0, .inr (0, [.int 0, .ref q1, .ref q2, .ref q3, .null, .null, .null, .null])), (q1, .inl (K 0, 8, .inl z_)), (q2, .inl (K 0, 8, .inl z_)), (q3, .inl (K 0, 8, .inl z_))] := hD
  refine lv_aload_n hx hb dX0_init_28 rfl (lv_at hl 0 rfl) ?_
  refine lv_bipush (v := 8) hx hb dX0_init_29 (by decide) ?_
  refine va_newa (atype := .int) (ty := .int) (a0 := (8, .inl z_)) hx hb (hts (.arrayClass .int) (List.mem_cons_of_mem _ (gw_t (tin1 (List.mem_of_getElem? (i := 83) rfl)) rfl))) rfl hK hP hD hS hA (fun cA => rfl) (by decide) (N' := 8) (by decide) (Nat.le_of_ble_eq_true rfl) (Nat.le_of_ble_eq_true rfl) (Nat.le_of_ble_eq_true rfl) dX0_init_31 (fun q4 cA H hK1 hP hD hS => ?_)
  have ec := cA_int hK1
  subst ec
  have hP : va_P D vwCl [(h0, .inr (0, [.int 0, .ref q1, .ref q2, .ref q3, .null, .null, .null, .null])), (q1, .inl (K 0, 8, .inl z_)), (q2, .inl (K 0, 8, .inl z_)), (q3, .inl (K 0, 8, .inl z_)), (q4, .inl (K 0, 8, .inl z_))] H := hP
  have hD : va_D A [(h0, .inr (0, [.int 0, .ref q1, .ref q2, .ref q3, .null, .null, .null, .null])), (q1, .inl (K 0, 8, .inl z_)), (q2, .inl (K 0, 8, .inl z_)), (q3, .inl (K 0, 8, .inl z_)), (q4, .inl (K 0, 8, .inl z_))] := hD
  refine va_putF (D := D) (ci := 0) (v := .ref q4) (ty := .array .int) (C := RX0) (T := TX0) (N := 8) hx hb hts (fun w h => List.mem_cons_of_mem _ (inX0 w h)) tyX0 tyX0_ok nmX0 hown hK hP hD hS 0 rfl rfl 4 (by decide) (hts _ (List.mem_cons_of_mem _ (gw_t (tin1 (List.mem_of_getElem? (i := 98) rfl)) rfl))) (fun _ h9 => h9) rfl hin rfl (by decide +kernel) rfl rfl (Nat.le_of_ble_eq_true rfl) dX0_init_33 (fun H locs hP hD hS => ?_)
  have hP : va_P D vwCl [(h0, .inr (0, [.int 0, .ref q1, .ref q2, .ref q3, .ref q4, .null, .null, .null])), (q1, .inl (K 0, 8, .inl z_)), (q2, .inl (K 0, 8, .inl z_)), (q3, .inl (K 0, 8, .inl z_)), (q4, .inl (K 0, 8, .inl z_))] H := hP
  have hD : va_D A [(h0, .inr (0, [.int 0, .ref q1, .ref q2, .ref q3, .ref q4, .null, .null, .null])), (q1, .inl (K 0, 8, .inl z_)), (q2, .inl (K 0, 8, .inl z_)), (q3, .inl (K 0, 8, .inl z_)), (q4, .inl (K 0, 8, .inl z_))] := hD
  refine lv_aload_n hx hb dX0_init_36 rfl (lv_at hl 0 rfl) ?_
  refine lv_bipush (v := 8) hx hb dX0_init_37 (by decide) ?_
  refine va_newa (atype := .int) (ty := .int) (a0 := (8, .inl z_)) hx hb (hts (.arrayClass .int) (List.mem_cons_of_mem _ (gw_t (tin1 (List.mem_of_getElem? (i := 83) rfl)) rfl))) rfl hK hP hD hS hA (fun cA => rfl) (by decide) (N' := 8) (by decide) (Nat.le_of_ble_eq_true rfl) (Nat.le_of_ble_eq_true rfl) (Nat.le_of_ble_eq_true rfl) dX0_init_39 (fun q5 cA H hK1 hP hD hS => ?_)
  have ec := cA_int hK1
  subst ec
  have hP : va_P D vwCl [(h0, .inr (0, [.int 0, .ref q1, .ref q2, .ref q3, .ref q4, .null, .null, .null])), (q1, .inl (K 0, 8, .inl z_)), (q2, .inl (K 0, 8, .inl z_)), (q3, .inl (K 0, 8, .inl z_)), (q4, .inl (K 0, 8, .inl z_)), (q5, .inl (K 0, 8, .inl z_))] H := hP
  have hD : va_D A [(h0, .inr (0, [.int 0, .ref q1, .ref q2, .ref q3, .ref q4, .null, .null, .null])), (q1, .inl (K 0, 8, .inl z_)), (q2, .inl (K 0, 8, .inl z_)), (q3, .inl (K 0, 8, .inl z_)), (q4, .inl (K 0, 8, .inl z_)), (q5, .inl (K 0, 8, .inl z_))] := hD
  refine va_putF (D := D) (ci := 0) (v := .ref q5) (ty := .array .int) (C := RX0) (T := TX0) (N := 8) hx hb hts (fun w h => List.mem_cons_of_mem _ (inX0 w h)) tyX0 tyX0_ok nmX0 hown hK hP hD hS 0 rfl rfl 5 (by decide) (hts _ (List.mem_cons_of_mem _ (gw_t (tin1 (List.mem_of_getElem? (i := 99) rfl)) rfl))) (fun _ h9 => h9) rfl hin rfl (by decide +kernel) rfl rfl (Nat.le_of_ble_eq_true rfl) dX0_init_41 (fun H locs hP hD hS => ?_)
  have hP : va_P D vwCl [(h0, .inr (0, [.int 0, .ref q1, .ref q2, .ref q3, .ref q4, .ref q5, .null, .null])), (q1, .inl (K 0, 8, .inl z_)), (q2, .inl (K 0, 8, .inl z_)), (q3, .inl (K 0, 8, .inl z_)), (q4, .inl (K 0, 8, .inl z_)), (q5, .inl (K 0, 8, .inl z_))] H := hP
  have hD : va_D A [(h0, .inr (0, [.int 0, .ref q1, .ref q2, .ref q3, .ref q4, .ref q5, .null, .null])), (q1, .inl (K 0, 8, .inl z_)), (q2, .inl (K 0, 8, .inl z_)), (q3, .inl (K 0, 8, .inl z_)), (q4, .inl (K 0, 8, .inl z_)), (q5, .inl (K 0, 8, .inl z_))] := hD
  refine lv_aload_n hx hb dX0_init_44 rfl (lv_at hl 0 rfl) ?_
  refine lv_bipush (v := 8) hx hb dX0_init_45 (by decide) ?_
  refine va_newa (atype := .int) (ty := .int) (a0 := (8, .inl z_)) hx hb (hts (.arrayClass .int) (List.mem_cons_of_mem _ (gw_t (tin1 (List.mem_of_getElem? (i := 83) rfl)) rfl))) rfl hK hP hD hS hA (fun cA => rfl) (by decide) (N' := 8) (by decide) (Nat.le_of_ble_eq_true rfl) (Nat.le_of_ble_eq_true rfl) (Nat.le_of_ble_eq_true rfl) dX0_init_47 (fun q6 cA H hK1 hP hD hS => ?_)
  have ec := cA_int hK1
  subst ec
  have hP : va_P D vwCl [(h0, .inr (0, [.int 0, .ref q1, .ref q2, .ref q3, .ref q4, .ref q5, .null, .null])), (q1, .inl (K 0, 8, .inl z_)), (q2, .inl (K 0, 8, .inl z_)), (q3, .inl (K 0, 8, .inl z_)), (q4, .inl (K 0, 8, .inl z_)), (q5, .inl (K 0, 8, .inl z_)), (q6, .inl (K 0, 8, .inl z_))] H := hP
  have hD : va_D A [(h0, .inr (0, [.int 0, .ref q1, .ref q2, .ref q3, .ref q4, .ref q5, .null, .null])), (q1, .inl (K 0, 8, .inl z_)), (q2, .inl (K 0, 8, .inl z_)), (q3, .inl (K 0, 8, .inl z_)), (q4, .inl (K 0, 8, .inl z_)), (q5, .inl (K 0, 8, .inl z_)), (q6, .inl (K 0, 8, .inl z_))] := hD
  refine va_putF (D := D) (ci := 0) (v := .ref q6) (ty := .array .int) (C := RX0) (T := TX0) (N := 8) hx hb hts (fun w h => List.mem_cons_of_mem _ (inX0 w h)) tyX0 tyX0_ok nmX0 hown hK hP hD hS 0 rfl rfl 6 (by decide) (hts _ (List.mem_cons_of_mem _ (gw_t (tin1 (List.mem_of_getElem? (i := 102) rfl)) rfl))) (fun _ h9 => h9) rfl hin rfl (by decide +kernel) rfl rfl (Nat.le_of_ble_eq_true rfl) dX0_init_49 (fun H locs hP hD hS => ?_)
  have hP : va_P D vwCl [(h0, .inr (0, [.int 0, .ref q1, .ref q2, .ref q3, .ref q4, .ref q5, .ref q6, .null])), (q1, .inl (K 0, 8, .inl z_)), (q2, .inl (K 0, 8, .inl z_)), (q3, .inl (K 0, 8, .inl z_)), (q4, .inl (K 0, 8, .inl z_)), (q5, .inl (K 0, 8, .inl z_)), (q6, .inl (K 0, 8, .inl z_))] H := hP
  have hD : va_D A [(h0, .inr (0, [.int 0, .ref q1, .ref q2, .ref q3, .ref q4, .ref q5, .ref q6, .null])), (q1, .inl (K 0, 8, .inl z_)), (q2, .inl (K 0, 8, .inl z_)), (q3, .inl (K 0, 8, .inl z_)), (q4, .inl (K 0, 8, .inl z_)), (q5, .inl (K 0, 8, .inl z_)), (q6, .inl (K 0, 8, .inl z_))] := hD
  refine lv_aload_n hx hb dX0_init_52 rfl (lv_at hl 0 rfl) ?_
  refine lv_bipush (v := 8) hx hb dX0_init_53 (by decide) ?_
  refine va_newa (atype := .int) (ty := .int) (a0 := (8, .inl z_)) hx hb (hts (.arrayClass .int) (List.mem_cons_of_mem _ (gw_t (tin1 (List.mem_of_getElem? (i := 83) rfl)) rfl))) rfl hK hP hD hS hA (fun cA => rfl) (by decide) (N' := 8) (by decide) (Nat.le_of_ble_eq_true rfl) (Nat.le_of_ble_eq_true rfl) (Nat.le_of_ble_eq_true rfl) dX0_init_55 (fun q7 cA H hK1 hP hD hS => ?_)
  have ec := cA_int hK1
  subst ec
  have hP : va_P D vwCl [(h0, .inr (0, [.int 0, .ref q1, .ref q2, .ref q3, .ref q4, .ref q5, .ref q6, .null])), (q1, .inl (K 0, 8, .inl z_)), (q2, .inl (K 0, 8, .inl z_)), (q3, .inl (K 0, 8, .inl z_)), (q4, .inl (K 0, 8, .inl z_)), (q5, .inl (K 0, 8, .inl z_)), (q6, .inl (K 0, 8, .inl z_)), (q7, .inl (K 0, 8, .inl z_))] H := hP
  have hD : va_D A [(h0, .inr (0, [.int 0, .ref q1, .ref q2, .ref q3, .ref q4, .ref q5, .ref q6, .null])), (q1, .inl (K 0, 8, .inl z_)), (q2, .inl (K 0, 8, .inl z_)), (q3, .inl (K 0, 8, .inl z_)), (q4, .inl (K 0, 8, .inl z_)), (q5, .inl (K 0, 8, .inl z_)), (q6, .inl (K 0, 8, .inl z_)), (q7, .inl (K 0, 8, .inl z_))] := hD
  refine va_putF (D := D) (ci := 0) (v := .ref q7) (ty := .array .int) (C := RX0) (T := TX0) (N := 8) hx hb hts (fun w h => List.mem_cons_of_mem _ (inX0 w h)) tyX0 tyX0_ok nmX0 hown hK hP hD hS 0 rfl rfl 7 (by decide) (hts _ (List.mem_cons_of_mem _ (gw_t (tin1 (List.mem_of_getElem? (i := 104) rfl)) rfl))) (fun _ h9 => h9) rfl hin rfl (by decide +kernel) rfl rfl (Nat.le_of_ble_eq_true rfl) dX0_init_57 (fun H locs hP hD hS => ?_)
  have hP : va_P D vwCl [(h0, .inr (0, [.int 0, .ref q1, .ref q2, .ref q3, .ref q4, .ref q5, .ref q6, .ref q7])), (q1, .inl (K 0, 8, .inl z_)), (q2, .inl (K 0, 8, .inl z_)), (q3, .inl (K 0, 8, .inl z_)), (q4, .inl (K 0, 8, .inl z_)), (q5, .inl (K 0, 8, .inl z_)), (q6, .inl (K 0, 8, .inl z_)), (q7, .inl (K 0, 8, .inl z_))] H := hP
  have hD : va_D A [(h0, .inr (0, [.int 0, .ref q1, .ref q2, .ref q3, .ref q4, .ref q5, .ref q6, .ref q7])), (q1, .inl (K 0, 8, .inl z_)), (q2, .inl (K 0, 8, .inl z_)), (q3, .inl (K 0, 8, .inl z_)), (q4, .inl (K 0, 8, .inl z_)), (q5, .inl (K 0, 8, .inl z_)), (q6, .inl (K 0, 8, .inl z_)), (q7, .inl (K 0, 8, .inl z_))] := hD
  refine W.widen (k := 7) (n := 56) (Nat.le_of_ble_eq_true rfl) (Nat.le_of_ble_eq_true rfl) ?_
  exact W.vret hx hb hr (fun t ht hW => ⟨⟨(), rfl, trivial, _, ⟨q1, q2, q3, q4, q5, q6, q7, rfl⟩, by rw [ht]; exact hP, hD⟩, hS.F ht⟩) hS.2.2 dX0_init_60
def PN7 (K : Nat → ClassId) (h0 : Nat) (w1 : va_W) : Prop := ∃ q1 q2 q3 q4 q5 q6 q7 q8 q9 q10 q11 q12 : Nat, w1 = [(h0, .inr (7, [.int 0, .ref q1, .ref q2, .ref q3, .ref q4, .ref q5, .ref q6, .ref q7, .ref q8, .ref q9, .ref q10, .ref q11, .ref q12])), (q1, .inl (K 0, 30, .inl z_)), (q2, .inl (K 0, 30, .inl z_)), (q3, .inl (K 0, 30, .inl z_)), (q4, .inl (K 0, 30, .inl z_)), (q5, .inl (K 0, 30, .inl z_)), (q6, .inl (K 0, 30, .inl z_)), (q7, .inl (K 1, 30, .inl z_)), (q8, .inl (K 0, 30, .inl z_)), (q9, .inl (K 0, 30, .inl z_)), (q10, .inl (K 0, 30, .inl z_)), (q11, .inl (K 0, 30, .inl z_)), (q12, .inl (K 0, 30, .inl z_))]
set_option maxHeartbeats 4000000 in
set_option maxRecDepth 100000 in
theorem wn7 (l : Launch) (D : va_G) (K : Nat → ClassId) (h0 sz : Nat) : MN l D K yX7_init cX7_init 1 1 14 12 360 h0 [(h0, .inr (7, [.int 0, .null, .null, .null, .null, .null, .null, .null, .null, .null, .null, .null, .null]))] sz (PN7 K h0) := by
  refine Met.ofW (cc := cX7_init) (maxL := 1) (ret := none) (by decide) rfl ?_
  intro p e s m args below meth c s₁ B hml hv
  obtain ⟨rfl, hsz, hP, hK, hD0⟩ := hv
  have hx := B.exec
  have hb := B.bytes
  have hr := B.returns
  have hts := atoms_spec (ws := Wsd yX7_init cX7_init 1 none) B.pre
  have hown : s.vm.findClass RX7 = some m.cls := findClass_of_methodNamed B.named
  have hin : meth.name = "<init>" := (name_of_methodNamed B.named B.method).1
  subst hsz
  have hD := hD0.self (sz := s.heap.size)
  generalize hAe : va_A [(h0, .inr (7, [.int 0, .null, .null, .null, .null, .null, .null, .null, .null, .null, .null, .null, .null]))] s.heap.size = A at hD ⊢
  have hA : ∀ q : Nat, s.heap.size ≤ q → A q := fun q h => by rw [← hAe]; exact Or.inr h
  have hS : va_S A s.heap s.heap [] := va_S.rf
  have hP : va_P D vwCl [(h0, .inr (7, [.int 0, .null, .null, .null, .null, .null, .null, .null, .null, .null, .null, .null, .null]))] s.heap := hP
  have hl := lv_entry ([.ref h0]) (n := 1) (Nat.le_of_ble_eq_true rfl)
  rw [lg_entry_eq]
  generalize (lg_sl ([.ref h0]) ++ List.replicate (1 - (lg_sl ([.ref h0])).length) Slot.unset).toArray = ls at hl ⊢
  have hl : lv_has ls 1 [(0, .ref h0)] := hl
  refine lv_aload_n hx hb dX7_init_0 rfl (lv_at hl 0 rfl) ?_
  refine W.objInit hx hb hown (hts (.methodLink RX7 3 objectInit) (List.mem_cons_of_mem _ (gw_t (tin1 (List.mem_of_getElem? (i := 127) rfl)) rfl))) (hts (.instanceMethod objectInit) (List.mem_cons_of_mem _ (gw_t (tin1 (List.mem_of_getElem? (i := 37) rfl)) rfl))) (hts (.code objectInit ⟨#[0xb1]⟩ 1 none) (List.mem_cons_of_mem _ (gw_t (tin1 (List.mem_of_getElem? (i := 38) rfl)) rfl))) rfl (by rw [hml]; exact hl.1) rfl dX7_init_1 (Nat.le_of_ble_eq_true rfl) (Nat.le_of_ble_eq_true rfl) ?_
  refine W.eq (g2 := F0 m 4 ls []) rfl ?_
  refine lv_aload_n hx hb dX7_init_4 rfl (lv_at hl 0 rfl) ?_
  refine lv_bipush (v := 30) hx hb dX7_init_5 (by decide) ?_
  refine va_newa (atype := .int) (ty := .int) (a0 := (30, .inl z_)) hx hb (hts (.arrayClass .int) (List.mem_cons_of_mem _ (gw_t (tin1 (List.mem_of_getElem? (i := 83) rfl)) rfl))) rfl hK hP hD hS hA (fun cA => rfl) (by decide) (N' := 30) (by decide) (Nat.le_of_ble_eq_true rfl) (Nat.le_of_ble_eq_true rfl) (Nat.le_of_ble_eq_true rfl) dX7_init_7 (fun q1 cA H hK1 hP hD hS => ?_)
  have ec := cA_int hK1
  subst ec
  have hP : va_P D vwCl [(h0, .inr (7, [.int 0, .null, .null, .null, .null, .null, .null, .null, .null, .null, .null, .null, .null])), (q1, .inl (K 0, 30, .inl z_))] H := hP
  have hD : va_D A [(h0, .inr (7, [.int 0, .null, .null, .null, .null, .null, .null, .null, .null, .null, .null, .null, .null])), (q1, .inl (K 0, 30, .inl z_))] := hD
  refine va_putF (D := D) (ci := 7) (v := .ref q1) (ty := .array .int) (C := RX7) (T := TX7) (N := 13) hx hb hts (fun w h => List.mem_cons_of_mem _ (inX7 w h)) tyX7 tyX7_ok nmX7 hown hK hP hD hS 0 rfl rfl 1 (by decide) (hts _ (List.mem_cons_of_mem _ (gw_t (tin1 (List.mem_of_getElem? (i := 132) rfl)) rfl))) (fun _ h9 => h9) rfl hin rfl (by decide +kernel) rfl rfl (Nat.le_of_ble_eq_true rfl) dX7_init_9 (fun H locs hP hD hS => ?_)
  have hP : va_P D vwCl [(h0, .inr (7, [.int 0, .ref q1, .null, .null, .null, .null, .null, .null, .null, .null, .null, .null, .null])), (q1, .inl (K 0, 30, .inl z_))] H := hP
  have hD : va_D A [(h0, .inr (7, [.int 0, .ref q1, .null, .null, .null, .null, .null, .null, .null, .null, .null, .null, .null])), (q1, .inl (K 0, 30, .inl z_))] := hD
  refine lv_aload_n hx hb dX7_init_12 rfl (lv_at hl 0 rfl) ?_
  refine lv_bipush (v := 30) hx hb dX7_init_13 (by decide) ?_
  refine va_newa (atype := .int) (ty := .int) (a0 := (30, .inl z_)) hx hb (hts (.arrayClass .int) (List.mem_cons_of_mem _ (gw_t (tin1 (List.mem_of_getElem? (i := 83) rfl)) rfl))) rfl hK hP hD hS hA (fun cA => rfl) (by decide) (N' := 30) (by decide) (Nat.le_of_ble_eq_true rfl) (Nat.le_of_ble_eq_true rfl) (Nat.le_of_ble_eq_true rfl) dX7_init_15 (fun q2 cA H hK1 hP hD hS => ?_)
  have ec := cA_int hK1
  subst ec
  have hP : va_P D vwCl [(h0, .inr (7, [.int 0, .ref q1, .null, .null, .null, .null, .null, .null, .null, .null, .null, .null, .null])), (q1, .inl (K 0, 30, .inl z_)), (q2, .inl (K 0, 30, .inl z_))] H := hP
  have hD : va_D A [(h0, .inr (7, [.int 0, .ref q1, .null, .null, .null, .null, .null, .null, .null, .null, .null, .null, .null])), (q1, .inl (K 0, 30, .inl z_)), (q2, .inl (K 0, 30, .inl z_))] := hD
  refine va_putF (D := D) (ci := 7) (v := .ref q2) (ty := .array .int) (C := RX7) (T := TX7) (N := 13) hx hb hts (fun w h => List.mem_cons_of_mem _ (inX7 w h)) tyX7 tyX7_ok nmX7 hown hK hP hD hS 0 rfl rfl 2 (by decide) (hts _ (List.mem_cons_of_mem _ (gw_t (tin1 (List.mem_of_getElem? (i := 135) rfl)) rfl))) (fun _ h9 => h9) rfl hin rfl (by decide +kernel) rfl rfl (Nat.le_of_ble_eq_true rfl) dX7_init_17 (fun H locs hP hD hS => ?_)
  have hP : va_P D vwCl [(h0, .inr (7, [.int 0, .ref q1, .ref q2, .null, .null, .null, .null, .null, .null, .null, .null, .null, .null])), (q1, .inl (K 0, 30, .inl z_)), (q2, .inl (K 0, 30, .inl z_))] H := hP
  have hD : va_D A [(h0, .inr (7, [.int 0, .ref q1, .ref q2, .null, .null, .null, .null, .null, .null, .null, .null, .null, .null])), (q1, .inl (K 0, 30, .inl z_)), (q2, .inl (K 0, 30, .inl z_))] := hD
  refine lv_aload_n hx hb dX7_init_20 rfl (lv_at hl 0 rfl) ?_
  refine lv_bipush (v := 30) hx hb dX7_init_21 (by decide) ?_
  refine va_newa (atype := .int) (ty := .int) (a0 := (30, .inl z_)) hx hb (hts (.arrayClass .int) (List.mem_cons_of_mem _ (gw_t (tin1 (List.mem_of_getElem? (i := 83) rfl)) rfl))) rfl hK hP hD hS hA (fun cA => rfl) (by decide) (N' := 30) (by decide) (Nat.le_of_ble_eq_true rfl) (Nat.le_of_ble_eq_true rfl) (Nat.le_of_ble_eq_true rfl) dX7_init_23 (fun q3 cA H hK1 hP hD hS => ?_)
  have ec := cA_int hK1
  subst ec
  have hP : va_P D vwCl [(h0, .inr (7, [.int 0, .ref q1, .ref q2, .null, .null, .null, .null, .null, .null, .null, .null, .null, .null])), (q1, .inl (K 0, 30, .inl z_)), (q2, .inl (K 0, 30, .inl z_)), (q3, .inl (K 0, 30, .inl z_))] H := hP
  have hD : va_D A [(h0, .inr (7, [.int 0, .ref q1, .ref q2, .null, .null, .null, .null, .null, .null, .null, .null, .null, .null])), (q1, .inl (K 0, 30, .inl z_)), (q2, .inl (K 0, 30, .inl z_)), (q3, .inl (K 0, 30, .inl z_))] := hD
  refine va_putF (D := D) (ci := 7) (v := .ref q3) (ty := .array .int) (C := RX7) (T := TX7) (N := 13) hx hb hts (fun w h => List.mem_cons_of_mem _ (inX7 w h)) tyX7 tyX7_ok nmX7 hown hK hP hD hS 0 rfl rfl 3 (by decide) (hts _ (List.mem_cons_of_mem _ (gw_t (tin1 (List.mem_of_getElem? (i := 137) rfl)) rfl))) (fun _ h9 => h9) rfl hin rfl (by decide +kernel) rfl rfl (Nat.le_of_ble_eq_true rfl) dX7_init_25 (fun H locs hP hD hS => ?_)
  have hP : va_P D vwCl [(h0, .inr (7, [.int 0, .ref q1, .ref q2, .ref q3, .null, .null, .null, .null, .null, .null, .null, .null, .null])), (q1, .inl (K 0, 30, .inl z_)), (q2, .inl (K 0, 30, .inl z_)), (q3, .inl (K 0, 30, .inl z_))] H := hP
  have hD : va_D A [(h0, .inr (7, [.int 0, .ref q1, .ref q2, .ref q3, .null, .null, .null, .null, .null, .null, .null, .null, .null])), (q1, .inl (K 0, 30, .inl z_)), (q2, .inl (K 0, 30, .inl z_)), (q3, .inl (K 0, 30, .inl z_))] := hD
  refine lv_aload_n hx hb dX7_init_28 rfl (lv_at hl 0 rfl) ?_
  refine lv_bipush (v := 30) hx hb dX7_init_29 (by decide) ?_
  refine va_newa (atype := .int) (ty := .int) (a0 := (30, .inl z_)) hx hb (hts (.arrayClass .int) (List.mem_cons_of_mem _ (gw_t (tin1 (List.mem_of_getElem? (i := 83) rfl)) rfl))) rfl hK hP hD hS hA (fun cA => rfl) (by decide) (N' := 30) (by decide) (Nat.le_of_ble_eq_true rfl) (Nat.le_of_ble_eq_true rfl) (Nat.le_of_ble_eq_true rfl) dX7_init_31 (fun q4 cA H hK1 hP hD hS => ?_)
  have ec := cA_int hK1
  subst ec
  have hP : va_P D vwCl [(h0, .inr (7, [.int 0, .ref q1, .ref q2, .ref q3, .null, .null, .null, .null, .null, .null, .null, .null, .null])), (q1, .inl (K 0, 30, .inl z_)), (q2, .inl (K 0, 30, .inl z_)), (q3, .inl (K 0, 30, .inl z_)), (q4, .inl (K 0, 30, .inl z_))] H := hP
  have hD : va_D A [(h0, .inr (7, [.int 0, .ref q1, .ref q2, .ref q3, .null, .null, .null, .null, .null, .null, .null, .null, .null])), (q1, .inl (K 0, 30, .inl z_)), (q2, .inl (K 0, 30, .inl z_)), (q3, .inl (K 0, 30, .inl z_)), (q4, .inl (K 0, 30, .inl z_))] := hD
  refine va_putF (D := D) (ci := 7) (v := .ref q4) (ty := .array .int) (C := RX7) (T := TX7) (N := 13) hx hb hts (fun w h => List.mem_cons_of_mem _ (inX7 w h)) tyX7 tyX7_ok nmX7 hown hK hP hD hS 0 rfl rfl 4 (by decide) (hts _ (List.mem_cons_of_mem _ (gw_t (tin1 (List.mem_of_getElem? (i := 140) rfl)) rfl))) (fun _ h9 => h9) rfl hin rfl (by decide +kernel) rfl rfl (Nat.le_of_ble_eq_true rfl) dX7_init_33 (fun H locs hP hD hS => ?_)
  have hP : va_P D vwCl [(h0, .inr (7, [.int 0, .ref q1, .ref q2, .ref q3, .ref q4, .null, .null, .null, .null, .null, .null, .null, .null])), (q1, .inl (K 0, 30, .inl z_)), (q2, .inl (K 0, 30, .inl z_)), (q3, .inl (K 0, 30, .inl z_)), (q4, .inl (K 0, 30, .inl z_))] H := hP
  have hD : va_D A [(h0, .inr (7, [.int 0, .ref q1, .ref q2, .ref q3, .ref q4, .null, .null, .null, .null, .null, .null, .null, .null])), (q1, .inl (K 0, 30, .inl z_)), (q2, .inl (K 0, 30, .inl z_)), (q3, .inl (K 0, 30, .inl z_)), (q4, .inl (K 0, 30, .inl z_))] := hD
  refine lv_aload_n hx hb dX7_init_36 rfl (lv_at hl 0 rfl) ?_
  refine lv_bipush (v := 30) hx hb dX7_init_37 (by decide) ?_
  refine va_newa (atype := .int) (ty := .int) (a0 := (30, .inl z_)) hx hb (hts (.arrayClass .int) (List.mem_cons_of_mem _ (gw_t (tin1 (List.mem_of_getElem? (i := 83) rfl)) rfl))) rfl hK hP hD hS hA (fun cA => rfl) (by decide) (N' := 30) (by decide) (Nat.le_of_ble_eq_true rfl) (Nat.le_of_ble_eq_true rfl) (Nat.le_of_ble_eq_true rfl) dX7_init_39 (fun q5 cA H hK1 hP hD hS => ?_)
  have ec := cA_int hK1
  subst ec
  have hP : va_P D vwCl [(h0, .inr (7, [.int 0, .ref q1, .ref q2, .ref q3, .ref q4, .null, .null, .null, .null, .null, .null, .null, .null])), (q1, .inl (K 0, 30, .inl z_)), (q2, .inl (K 0, 30, .inl z_)), (q3, .inl (K 0, 30, .inl z_)), (q4, .inl (K 0, 30, .inl z_)), (q5, .inl (K 0, 30, .inl z_))] H := hP
  have hD : va_D A [(h0, .inr (7, [.int 0, .ref q1, .ref q2, .ref q3, .ref q4, .null, .null, .null, .null, .null, .null, .null, .null])), (q1, .inl (K 0, 30, .inl z_)), (q2, .inl (K 0, 30, .inl z_)), (q3, .inl (K 0, 30, .inl z_)), (q4, .inl (K 0, 30, .inl z_)), (q5, .inl (K 0, 30, .inl z_))] := hD
  refine va_putF (D := D) (ci := 7) (v := .ref q5) (ty := .array .int) (C := RX7) (T := TX7) (N := 13) hx hb hts (fun w h => List.mem_cons_of_mem _ (inX7 w h)) tyX7 tyX7_ok nmX7 hown hK hP hD hS 0 rfl rfl 5 (by decide) (hts _ (List.mem_cons_of_mem _ (gw_t (tin1 (List.mem_of_getElem? (i := 142) rfl)) rfl))) (fun _ h9 => h9) rfl hin rfl (by decide +kernel) rfl rfl (Nat.le_of_ble_eq_true rfl) dX7_init_41 (fun H locs hP hD hS => ?_)
  have hP : va_P D vwCl [(h0, .inr (7, [.int 0, .ref q1, .ref q2, .ref q3, .ref q4, .ref q5, .null, .null, .null, .null, .null, .null, .null])), (q1, .inl (K 0, 30, .inl z_)), (q2, .inl (K 0, 30, .inl z_)), (q3, .inl (K 0, 30, .inl z_)), (q4, .inl (K 0, 30, .inl z_)), (q5, .inl (K 0, 30, .inl z_))] H := hP
  have hD : va_D A [(h0, .inr (7, [.int 0, .ref q1, .ref q2, .ref q3, .ref q4, .ref q5, .null, .null, .null, .null, .null, .null, .null])), (q1, .inl (K 0, 30, .inl z_)), (q2, .inl (K 0, 30, .inl z_)), (q3, .inl (K 0, 30, .inl z_)), (q4, .inl (K 0, 30, .inl z_)), (q5, .inl (K 0, 30, .inl z_))] := hD
  refine lv_aload_n hx hb dX7_init_44 rfl (lv_at hl 0 rfl) ?_
  refine lv_bipush (v := 30) hx hb dX7_init_45 (by decide) ?_
  refine va_newa (atype := .int) (ty := .int) (a0 := (30, .inl z_)) hx hb (hts (.arrayClass .int) (List.mem_cons_of_mem _ (gw_t (tin1 (List.mem_of_getElem? (i := 83) rfl)) rfl))) rfl hK hP hD hS hA (fun cA => rfl) (by decide) (N' := 30) (by decide) (Nat.le_of_ble_eq_true rfl) (Nat.le_of_ble_eq_true rfl) (Nat.le_of_ble_eq_true rfl) dX7_init_47 (fun q6 cA H hK1 hP hD hS => ?_)
  have ec := cA_int hK1
  subst ec
  have hP : va_P D vwCl [(h0, .inr (7, [.int 0, .ref q1, .ref q2, .ref q3, .ref q4, .ref q5, .null, .null, .null, .null, .null, .null, .null])), (q1, .inl (K 0, 30, .inl z_)), (q2, .inl (K 0, 30, .inl z_)), (q3, .inl (K 0, 30, .inl z_)), (q4, .inl (K 0, 30, .inl z_)), (q5, .inl (K 0, 30, .inl z_)), (q6, .inl (K 0, 30, .inl z_))] H := hP
  have hD : va_D A [(h0, .inr (7, [.int 0, .ref q1, .ref q2, .ref q3, .ref q4, .ref q5, .null, .null, .null, .null, .null, .null, .null])), (q1, .inl (K 0, 30, .inl z_)), (q2, .inl (K 0, 30, .inl z_)), (q3, .inl (K 0, 30, .inl z_)), (q4, .inl (K 0, 30, .inl z_)), (q5, .inl (K 0, 30, .inl z_)), (q6, .inl (K 0, 30, .inl z_))] := hD
  refine va_putF (D := D) (ci := 7) (v := .ref q6) (ty := .array .int) (C := RX7) (T := TX7) (N := 13) hx hb hts (fun w h => List.mem_cons_of_mem _ (inX7 w h)) tyX7 tyX7_ok nmX7 hown hK hP hD hS 0 rfl rfl 6 (by decide) (hts _ (List.mem_cons_of_mem _ (gw_t (tin1 (List.mem_of_getElem? (i := 145) rfl)) rfl))) (fun _ h9 => h9) rfl hin rfl (by decide +kernel) rfl rfl (Nat.le_of_ble_eq_true rfl) dX7_init_49 (fun H locs hP hD hS => ?_)
  have hP : va_P D vwCl [(h0, .inr (7, [.int 0, .ref q1, .ref q2, .ref q3, .ref q4, .ref q5, .ref q6, .null, .null, .null, .null, .null, .null])), (q1, .inl (K 0, 30, .inl z_)), (q2, .inl (K 0, 30, .inl z_)), (q3, .inl (K 0, 30, .inl z_)), (q4, .inl (K 0, 30, .inl z_)), (q5, .inl (K 0, 30, .inl z_)), (q6, .inl (K 0, 30, .inl z_))] H := hP
  have hD : va_D A [(h0, .inr (7, [.int 0, .ref q1, .ref q2, .ref q3, .ref q4, .ref q5, .ref q6, .null, .null, .null, .null, .null, .null])), (q1, .inl (K 0, 30, .inl z_)), (q2, .inl (K 0, 30, .inl z_)), (q3, .inl (K 0, 30, .inl z_)), (q4, .inl (K 0, 30, .inl z_)), (q5, .inl (K 0, 30, .inl z_)), (q6, .inl (K 0, 30, .inl z_))] := hD
  refine lv_aload_n hx hb dX7_init_52 rfl (lv_at hl 0 rfl) ?_
  refine lv_bipush (v := 30) hx hb dX7_init_53 (by decide) ?_
  refine va_newa (atype := .boolean) (ty := .boolean) (a0 := (30, .inl z_)) hx hb (hts (.arrayClass .boolean) (List.mem_cons_of_mem _ (gw_t (tin1 (List.mem_of_getElem? (i := 190) rfl)) rfl))) rfl hK hP hD hS hA (fun cA => rfl) (by decide) (N' := 30) (by decide) (Nat.le_of_ble_eq_true rfl) (Nat.le_of_ble_eq_true rfl) (Nat.le_of_ble_eq_true rfl) dX7_init_55 (fun q7 cA H hK1 hP hD hS => ?_)
  have ec := cA_boolean hK1
  subst ec
  have hP : va_P D vwCl [(h0, .inr (7, [.int 0, .ref q1, .ref q2, .ref q3, .ref q4, .ref q5, .ref q6, .null, .null, .null, .null, .null, .null])), (q1, .inl (K 0, 30, .inl z_)), (q2, .inl (K 0, 30, .inl z_)), (q3, .inl (K 0, 30, .inl z_)), (q4, .inl (K 0, 30, .inl z_)), (q5, .inl (K 0, 30, .inl z_)), (q6, .inl (K 0, 30, .inl z_)), (q7, .inl (K 1, 30, .inl z_))] H := hP
  have hD : va_D A [(h0, .inr (7, [.int 0, .ref q1, .ref q2, .ref q3, .ref q4, .ref q5, .ref q6, .null, .null, .null, .null, .null, .null])), (q1, .inl (K 0, 30, .inl z_)), (q2, .inl (K 0, 30, .inl z_)), (q3, .inl (K 0, 30, .inl z_)), (q4, .inl (K 0, 30, .inl z_)), (q5, .inl (K 0, 30, .inl z_)), (q6, .inl (K 0, 30, .inl z_)), (q7, .inl (K 1, 30, .inl z_))] := hD
  refine va_putF (D := D) (ci := 7) (v := .ref q7) (ty := .array .boolean) (C := RX7) (T := TX7) (N := 13) hx hb hts (fun w h => List.mem_cons_of_mem _ (inX7 w h)) tyX7 tyX7_ok nmX7 hown hK hP hD hS 0 rfl rfl 7 (by decide) (hts _ (List.mem_cons_of_mem _ (gw_t (tin1 (List.mem_of_getElem? (i := 148) rfl)) rfl))) (fun _ h9 => h9) rfl hin rfl (by decide +kernel) rfl rfl (Nat.le_of_ble_eq_true rfl) dX7_init_57 (fun H locs hP hD hS => ?_)
  have hP : va_P D vwCl [(h0, .inr (7, [.int 0, .ref q1, .ref q2, .ref q3, .ref q4, .ref q5, .ref q6, .ref q7, .null, .null, .null, .null, .null])), (q1, .inl (K 0, 30, .inl z_)), (q2, .inl (K 0, 30, .inl z_)), (q3, .inl (K 0, 30, .inl z_)), (q4, .inl (K 0, 30, .inl z_)), (q5, .inl (K 0, 30, .inl z_)), (q6, .inl (K 0, 30, .inl z_)), (q7, .inl (K 1, 30, .inl z_))] H := hP
  have hD : va_D A [(h0, .inr (7, [.int 0, .ref q1, .ref q2, .ref q3, .ref q4, .ref q5, .ref q6, .ref q7, .null, .null, .null, .null, .null])), (q1, .inl (K 0, 30, .inl z_)), (q2, .inl (K 0, 30, .inl z_)), (q3, .inl (K 0, 30, .inl z_)), (q4, .inl (K 0, 30, .inl z_)), (q5, .inl (K 0, 30, .inl z_)), (q6, .inl (K 0, 30, .inl z_)), (q7, .inl (K 1, 30, .inl z_))] := hD
  refine lv_aload_n hx hb dX7_init_60 rfl (lv_at hl 0 rfl) ?_
  refine lv_bipush (v := 30) hx hb dX7_init_61 (by decide) ?_
  refine va_newa (atype := .int) (ty := .int) (a0 := (30, .inl z_)) hx hb (hts (.arrayClass .int) (List.mem_cons_of_mem _ (gw_t (tin1 (List.mem_of_getElem? (i := 83) rfl)) rfl))) rfl hK hP hD hS hA (fun cA => rfl) (by decide) (N' := 30) (by decide) (Nat.le_of_ble_eq_true rfl) (Nat.le_of_ble_eq_true rfl) (Nat.le_of_ble_eq_true rfl) dX7_init_63 (fun q8 cA H hK1 hP hD hS => ?_)
  have ec := cA_int hK1
  subst ec
  have hP : va_P D vwCl [(h0, .inr (7, [.int 0, .ref q1, .ref q2, .ref q3, .ref q4, .ref q5, .ref q6, .ref q7, .null, .null, .null, .null, .null])), (q1, .inl (K 0, 30, .inl z_)), (q2, .inl (K 0, 30, .inl z_)), (q3, .inl (K 0, 30, .inl z_)), (q4, .inl (K 0, 30, .inl z_)), (q5, .inl (K 0, 30, .inl z_)), (q6, .inl (K 0, 30, .inl z_)), (q7, .inl (K 1, 30, .inl z_)), (q8, .inl (K 0, 30, .inl z_))] H := hP
  have hD : va_D A [(h0, .inr (7, [.int 0, .ref q1, .ref q2, .ref q3, .ref q4, .ref q5, .ref q6, .ref q7, .null, .null, .null, .null, .null])), (q1, .inl (K 0, 30, .inl z_)), (q2, .inl (K 0, 30, .inl z_)), (q3, .inl (K 0, 30, .inl z_)), (q4, .inl (K 0, 30, .inl z_)), (q5, .inl (K 0, 30, .inl z_)), (q6, .inl (K 0, 30, .inl z_)), (q7, .inl (K 1, 30, .inl z_)), (q8, .inl (K 0, 30, .inl z_))] := hD
  refine va_putF (D := D) (ci := 7) (v := .ref q8) (ty := .array .int) (C := RX7) (T := TX7) (N := 13) hx hb hts (fun w h => List.mem_cons_of_mem _ (inX7 w h)) tyX7 tyX7_ok nmX7 hown hK hP hD hS 0 rfl rfl 8 (by decide) (hts _ (List.mem_cons_of_mem _ (gw_t (tin1 (List.mem_of_getElem? (i := 152) rfl)) rfl))) (fun _ h9 => h9) rfl hin rfl (by decide +kernel) rfl rfl (Nat.le_of_ble_eq_true rfl) dX7_init_65 (fun H locs hP hD hS => ?_)
  have hP : va_P D vwCl [(h0, .inr (7, [.int 0, .ref q1, .ref q2, .ref q3, .ref q4, .ref q5, .ref q6, .ref q7, .ref q8, .null, .null, .null, .null])), (q1, .inl (K 0, 30, .inl z_)), (q2, .inl (K 0, 30, .inl z_)), (q3, .inl (K 0, 30, .inl z_)), (q4, .inl (K 0, 30, .inl z_)), (q5, .inl (K 0, 30, .inl z_)), (q6, .inl (K 0, 30, .inl z_)), (q7, .inl (K 1, 30, .inl z_)), (q8, .inl (K 0, 30, .inl z_))] H := hP
  have hD : va_D A [(h0, .inr (7, [.int 0, .ref q1, .ref q2, .ref q3, .ref q4, .ref q5, .ref q6, .ref q7, .ref q8, .null, .null, .null, .null])), (q1, .inl (K 0, 30, .inl z_)), (q2, .inl (K 0, 30, .inl z_)), (q3, .inl (K 0, 30, .inl z_)), (q4, .inl (K 0, 30, .inl z_)), (q5, .inl (K 0, 30, .inl z_)), (q6, .inl (K 0, 30, .inl z_)), (q7, .inl (K 1, 30, .inl z_)), (q8, .inl (K 0, 30, .inl z_))] := hD
  refine lv_aload_n hx hb dX7_init_68 rfl (lv_at hl 0 rfl) ?_
  refine lv_bipush (v := 30) hx hb dX7_init_69 (by decide) ?_
  refine va_newa (atype := .int) (ty := .int) (a0 := (30, .inl z_)) hx hb (hts (.arrayClass .int) (List.mem_cons_of_mem _ (gw_t (tin1 (List.mem_of_getElem? (i := 83) rfl)) rfl))) rfl hK hP hD hS hA (fun cA => rfl) (by decide) (N' := 30) (by decide) (Nat.le_of_ble_eq_true rfl) (Nat.le_of_ble_eq_true rfl) (Nat.le_of_ble_eq_true rfl) dX7_init_71 (fun q9 cA H hK1 hP hD hS => ?_)
  have ec := cA_int hK1
  subst ec
  have hP : va_P D vwCl [(h0, .inr (7, [.int 0, .ref q1, .ref q2, .ref q3, .ref q4, .ref q5, .ref q6, .ref q7, .ref q8, .null, .null, .null, .null])), (q1, .inl (K 0, 30, .inl z_)), (q2, .inl (K 0, 30, .inl z_)), (q3, .inl (K 0, 30, .inl z_)), (q4, .inl (K 0, 30, .inl z_)), (q5, .inl (K 0, 30, .inl z_)), (q6, .inl (K 0, 30, .inl z_)), (q7, .inl (K 1, 30, .inl z_)), (q8, .inl (K 0, 30, .inl z_)), (q9, .inl (K 0, 30, .inl z_))] H := hP
  have hD : va_D A [(h0, .inr (7, [.int 0, .ref q1, .ref q2, .ref q3, .ref q4, .ref q5, .ref q6, .ref q7, .ref q8, .null, .null, .null, .null])), (q1, .inl (K 0, 30, .inl z_)), (q2, .inl (K 0, 30, .inl z_)), (q3, .inl (K 0, 30, .inl z_)), (q4, .inl (K 0, 30, .inl z_)), (q5, .inl (K 0, 30, .inl z_)), (q6, .inl (K 0, 30, .inl z_)), (q7, .inl (K 1, 30, .inl z_)), (q8, .inl (K 0, 30, .inl z_)), (q9, .inl (K 0, 30, .inl z_))] := hD
  refine va_putF (D := D) (ci := 7) (v := .ref q9) (ty := .array .int) (C := RX7) (T := TX7) (N := 13) hx hb hts (fun w h => List.mem_cons_of_mem _ (inX7 w h)) tyX7 tyX7_ok nmX7 hown hK hP hD hS 0 rfl rfl 9 (by decide) (hts _ (List.mem_cons_of_mem _ (gw_t (tin1 (List.mem_of_getElem? (i := 153) rfl)) rfl))) (fun _ h9 => h9) rfl hin rfl (by decide +kernel) rfl rfl (Nat.le_of_ble_eq_true rfl) dX7_init_73 (fun H locs hP hD hS => ?_)
  have hP : va_P D vwCl [(h0, .inr (7, [.int 0, .ref q1, .ref q2, .ref q3, .ref q4, .ref q5, .ref q6, .ref q7, .ref q8, .ref q9, .null, .null, .null])), (q1, .inl (K 0, 30, .inl z_)), (q2, .inl (K 0, 30, .inl z_)), (q3, .inl (K 0, 30, .inl z_)), (q4, .inl (K 0, 30, .inl z_)), (q5, .inl (K 0, 30, .inl z_)), (q6, .inl (K 0, 30, .inl z_)), (q7, .inl (K 1, 30, .inl z_)), (q8, .inl (K 0, 30, .inl z_)), (q9, .inl (K 0, 30, .inl z_))] H := hP
  have hD : va_D A [(h0, .inr (7, [.int 0, .ref q1, .ref q2, .ref q3, .ref q4, .ref q5, .ref q6, .ref q7, .ref q8, .ref q9, .null, .null, .null])), (q1, .inl (K 0, 30, .inl z_)), (q2, .inl (K 0, 30, .inl z_)), (q3, .inl (K 0, 30, .inl z_)), (q4, .inl (K 0, 30, .inl z_)), (q5, .inl (K 0, 30, .inl z_)), (q6, .inl (K 0, 30, .inl z_)), (q7, .inl (K 1, 30, .inl z_)), (q8, .inl (K 0, 30, .inl z_)), (q9, .inl (K 0, 30, .inl z_))] := hD
  refine lv_aload_n hx hb dX7_init_76 rfl (lv_at hl 0 rfl) ?_
  refine lv_bipush (v := 30) hx hb dX7_init_77 (by decide) ?_
  refine va_newa (atype := .int) (ty := .int) (a0 := (30, .inl z_)) hx hb (hts (.arrayClass .int) (List.mem_cons_of_mem _ (gw_t (tin1 (List.mem_of_getElem? (i := 83) rfl)) rfl))) rfl hK hP hD hS hA (fun cA => rfl) (by decide) (N' := 30) (by decide) (Nat.le_of_ble_eq_true rfl) (Nat.le_of_ble_eq_true rfl) (Nat.le_of_ble_eq_true rfl) dX7_init_79 (fun q10 cA H hK1 hP hD hS => ?_)
  have ec := cA_int hK1
  subst ec
  have hP : va_P D vwCl [(h0, .inr (7, [.int 0, .ref q1, .ref q2, .ref q3, .ref q4, .ref q5, .ref q6, .ref q7, .ref q8, .ref q9, .null, .null, .null])), (q1, .inl (K 0, 30, .inl z_)), (q2, .inl (K 0, 30, .inl z_)), (q3, .inl (K 0, 30, .inl z_)), (q4, .inl (K 0, 30, .inl z_)), (q5, .inl (K 0, 30, .inl z_)), (q6, .inl (K 0, 30, .inl z_)), (q7, .inl (K 1, 30, .inl z_)), (q8, .inl (K 0, 30, .inl z_)), (q9, .inl (K 0, 30, .inl z_)), (q10, .inl (K 0, 30, .inl z_))] H := hP
  have hD : va_D A [(h0, .inr (7, [.int 0, .ref q1, .ref q2, .ref q3, .ref q4, .ref q5, .ref q6, .ref q7, .ref q8, .ref q9, .null, .null, .null])), (q1, .inl (K 0, 30, .inl z_)), (q2, .inl (K 0, 30, .inl z_)), (q3, .inl (K 0, 30, .inl z_)), (q4, .inl (K 0, 30, .inl z_)), (q5, .inl (K 0, 30, .inl z_)), (q6, .inl (K 0, 30, .inl z_)), (q7, .inl (K 1, 30, .inl z_)), (q8, .inl (K 0, 30, .inl z_)), (q9, .inl (K 0, 30, .inl z_)), (q10, .inl (K 0, 30, .inl z_))] := hD
  refine va_putF (D := D) (ci := 7) (v := .ref q10) (ty := .array .int) (C := RX7) (T := TX7) (N := 13) hx hb hts (fun w h => List.mem_cons_of_mem _ (inX7 w h)) tyX7 tyX7_ok nmX7 hown hK hP hD hS 0 rfl rfl 10 (by decide) (hts _ (List.mem_cons_of_mem _ (gw_t (tin1 (List.mem_of_getElem? (i := 155) rfl)) rfl))) (fun _ h9 => h9) rfl hin rfl (by decide +kernel) rfl rfl (Nat.le_of_ble_eq_true rfl) dX7_init_81 (fun H locs hP hD hS => ?_)
  have hP : va_P D vwCl [(h0, .inr (7, [.int 0, .ref q1, .ref q2, .ref q3, .ref q4, .ref q5, .ref q6, .ref q7, .ref q8, .ref q9, .ref q10, .null, .null])), (q1, .inl (K 0, 30, .inl z_)), (q2, .inl (K 0, 30, .inl z_)), (q3, .inl (K 0, 30, .inl z_)), (q4, .inl (K 0, 30, .inl z_)), (q5, .inl (K 0, 30, .inl z_)), (q6, .inl (K 0, 30, .inl z_)), (q7, .inl (K 1, 30, .inl z_)), (q8, .inl (K 0, 30, .inl z_)), (q9, .inl (K 0, 30, .inl z_)), (q10, .inl (K 0, 30, .inl z_))] H := hP
  have hD : va_D A [(h0, .inr (7, [.int 0, .ref q1, .ref q2, .ref q3, .ref q4, .ref q5, .ref q6, .ref q7, .ref q8, .ref q9, .ref q10, .null, .null])), (q1, .inl (K 0, 30, .inl z_)), (q2, .inl (K 0, 30, .inl z_)), (q3, .inl (K 0, 30, .inl z_)), (q4, .inl (K 0, 30, .inl z_)), (q5, .inl (K 0, 30, .inl z_)), (q6, .inl (K 0, 30, .inl z_)), (q7, .inl (K 1, 30, .inl z_)), (q8, .inl (K 0, 30, .inl z_)), (q9, .inl (K 0, 30, .inl z_)), (q10, .inl (K 0, 30, .inl z_))] := hD
  refine lv_aload_n hx hb dX7_init_84 rfl (lv_at hl 0 rfl) ?_
  refine lv_bipush (v := 30) hx hb dX7_init_85 (by decide) ?_
  refine va_newa (atype := .int) (ty := .int) (a0 := (30, .inl z_)) hx hb (hts (.arrayClass .int) (List.mem_cons_of_mem _ (gw_t (tin1 (List.mem_of_getElem? (i := 83) rfl)) rfl))) rfl hK hP hD hS hA (fun cA => rfl) (by decide) (N' := 30) (by decide) (Nat.le_of_ble_eq_true rfl) (Nat.le_of_ble_eq_true rfl) (Nat.le_of_ble_eq_true rfl) dX7_init_87 (fun q11 cA H hK1 hP hD hS => ?_)
  have ec := cA_int hK1
  subst ec
  have hP : va_P D vwCl [(h0, .inr (7, [.int 0, .ref q1, .ref q2, .ref q3, .ref q4, .ref q5, .ref q6, .ref q7, .ref q8, .ref q9, .ref q10, .null, .null])), (q1, .inl (K 0, 30, .inl z_)), (q2, .inl (K 0, 30, .inl z_)), (q3, .inl (K 0, 30, .inl z_)), (q4, .inl (K 0, 30, .inl z_)), (q5, .inl (K 0, 30, .inl z_)), (q6, .inl (K 0, 30, .inl z_)), (q7, .inl (K 1, 30, .inl z_)), (q8, .inl (K 0, 30, .inl z_)), (q9, .inl (K 0, 30, .inl z_)), (q10, .inl (K 0, 30, .inl z_)), (q11, .inl (K 0, 30, .inl z_))] H := hP
  have hD : va_D A [(h0, .inr (7, [.int 0, .ref q1, .ref q2, .ref q3, .ref q4, .ref q5, .ref q6, .ref q7, .ref q8, .ref q9, .ref q10, .null, .null])), (q1, .inl (K 0, 30, .inl z_)), (q2, .inl (K 0, 30, .inl z_)), (q3, .inl (K 0, 30, .inl z_)), (q4, .inl (K 0, 30, .inl z_)), (q5, .inl (K 0, 30, .inl z_)), (q6, .inl (K 0, 30, .inl z_)), (q7, .inl (K 1, 30, .inl z_)), (q8, .inl (K 0, 30, .inl z_)), (q9, .inl (K 0, 30, .inl z_)), (q10, .inl (K 0, 30, .inl z_)), (q11, .inl (K 0, 30, .inl z_))] := hD
  refine va_putF (D := D) (ci := 7) (v := .ref q11) (ty := .array .int) (C := RX7) (T := TX7) (N := 13) hx hb hts (fun w h => List.mem_cons_of_mem _ (inX7 w h)) tyX7 tyX7_ok nmX7 hown hK hP hD hS 0 rfl rfl 11 (by decide) (hts _ (List.mem_cons_of_mem _ (gw_t (tin1 (List.mem_of_getElem? (i := 157) rfl)) rfl))) (fun _ h9 => h9) rfl hin rfl (by decide +kernel) rfl rfl (Nat.le_of_ble_eq_true rfl) dX7_init_89 (fun H locs hP hD hS => ?_)
  have hP : va_P D vwCl [(h0, .inr (7, [.int 0, .ref q1, .ref q2, .ref q3, .ref q4, .ref q5, .ref q6, .ref q7, .ref q8, .ref q9, .ref q10, .ref q11, .null])), (q1, .inl (K 0, 30, .inl z_)), (q2, .inl (K 0, 30, .inl z_)), (q3, .inl (K 0, 30, .inl z_)), (q4, .inl (K 0, 30, .inl z_)), (q5, .inl (K 0, 30, .inl z_)), (q6, .inl (K 0, 30, .inl z_)), (q7, .inl (K 1, 30, .inl z_)), (q8, .inl (K 0, 30, .inl z_)), (q9, .inl (K 0, 30, .inl z_)), (q10, .inl (K 0, 30, .inl z_)), (q11, .inl (K 0, 30, .inl z_))] H := hP
  have hD : va_D A [(h0, .inr (7, [.int 0, .ref q1, .ref q2, .ref q3, .ref q4, .ref q5, .ref q6, .ref q7, .ref q8, .ref q9, .ref q10, .ref q11, .null])), (q1, .inl (K 0, 30, .inl z_)), (q2, .inl (K 0, 30, .inl z_)), (q3, .inl (K 0, 30, .inl z_)), (q4, .inl (K 0, 30, .inl z_)), (q5, .inl (K 0, 30, .inl z_)), (q6, .inl (K 0, 30, .inl z_)), (q7, .inl (K 1, 30, .inl z_)), (q8, .inl (K 0, 30, .inl z_)), (q9, .inl (K 0, 30, .inl z_)), (q10, .inl (K 0, 30, .inl z_)), (q11, .inl (K 0, 30, .inl z_))] := hD
  refine lv_aload_n hx hb dX7_init_92 rfl (lv_at hl 0 rfl) ?_
  refine lv_bipush (v := 30) hx hb dX7_init_93 (by decide) ?_
  refine va_newa (atype := .int) (ty := .int) (a0 := (30, .inl z_)) hx hb (hts (.arrayClass .int) (List.mem_cons_of_mem _ (gw_t (tin1 (List.mem_of_getElem? (i := 83) rfl)) rfl))) rfl hK hP hD hS hA (fun cA => rfl) (by decide) (N' := 30) (by decide) (Nat.le_of_ble_eq_true rfl) (Nat.le_of_ble_eq_true rfl) (Nat.le_of_ble_eq_true rfl) dX7_init_95 (fun q12 cA H hK1 hP hD hS => ?_)
  have ec := cA_int hK1
  subst ec
  have hP : va_P D vwCl [(h0, .inr (7, [.int 0, .ref q1, .ref q2, .ref q3, .ref q4, .ref q5, .ref q6, .ref q7, .ref q8, .ref q9, .ref q10, .ref q11, .null])), (q1, .inl (K 0, 30, .inl z_)), (q2, .inl (K 0, 30, .inl z_)), (q3, .inl (K 0, 30, .inl z_)), (q4, .inl (K 0, 30, .inl z_)), (q5, .inl (K 0, 30, .inl z_)), (q6, .inl (K 0, 30, .inl z_)), (q7, .inl (K 1, 30, .inl z_)), (q8, .inl (K 0, 30, .inl z_)), (q9, .inl (K 0, 30, .inl z_)), (q10, .inl (K 0, 30, .inl z_)), (q11, .inl (K 0, 30, .inl z_)), (q12, .inl (K 0, 30, .inl z_))] H := hP
  have hD : va_D A [(h0, .inr (7, [.int 0, .ref q1, .ref q2, .ref q3, .ref q4, .ref q5, .ref q6, .ref q7, .ref q8, .ref q9, .ref q10, .ref q11, .null])), (q1, .inl (K 0, 30, .inl z_)), (q2, .inl (K 0, 30, .inl z_)), (q3, .inl (K 0, 30, .inl z_)), (q4, .inl (K 0, 30, .inl z_)), (q5, .inl (K 0, 30, .inl z_)), (q6, .inl (K 0, 30, .inl z_)), (q7, .inl (K 1, 30, .inl z_)), (q8, .inl (K 0, 30, .inl z_)), (q9, .inl (K 0, 30, .inl z_)), (q10, .inl (K 0, 30, .inl z_)), (q11, .inl (K 0, 30, .inl z_)), (q12, .inl (K 0, 30, .inl z_))] := hD
  refine va_putF (D := D) (ci := 7) (v := .ref q12) (ty := .array .int) (C := RX7) (T := TX7) (N := 13) hx hb hts (fun w h => List.mem_cons_of_mem _ (inX7 w h)) tyX7 tyX7_ok nmX7 hown hK hP hD hS 0 rfl rfl 12 (by decide) (hts _ (List.mem_cons_of_mem _ (gw_t (tin1 (List.mem_of_getElem? (i := 159) rfl)) rfl))) (fun _ h9 => h9) rfl hin rfl (by decide +kernel) rfl rfl (Nat.le_of_ble_eq_true rfl) dX7_init_97 (fun H locs hP hD hS => ?_)
  have hP : va_P D vwCl [(h0, .inr (7, [.int 0, .ref q1, .ref q2, .ref q3, .ref q4, .ref q5, .ref q6, .ref q7, .ref q8, .ref q9, .ref q10, .ref q11, .ref q12])), (q1, .inl (K 0, 30, .inl z_)), (q2, .inl (K 0, 30, .inl z_)), (q3, .inl (K 0, 30, .inl z_)), (q4, .inl (K 0, 30, .inl z_)), (q5, .inl (K 0, 30, .inl z_)), (q6, .inl (K 0, 30, .inl z_)), (q7, .inl (K 1, 30, .inl z_)), (q8, .inl (K 0, 30, .inl z_)), (q9, .inl (K 0, 30, .inl z_)), (q10, .inl (K 0, 30, .inl z_)), (q11, .inl (K 0, 30, .inl z_)), (q12, .inl (K 0, 30, .inl z_))] H := hP
  have hD : va_D A [(h0, .inr (7, [.int 0, .ref q1, .ref q2, .ref q3, .ref q4, .ref q5, .ref q6, .ref q7, .ref q8, .ref q9, .ref q10, .ref q11, .ref q12])), (q1, .inl (K 0, 30, .inl z_)), (q2, .inl (K 0, 30, .inl z_)), (q3, .inl (K 0, 30, .inl z_)), (q4, .inl (K 0, 30, .inl z_)), (q5, .inl (K 0, 30, .inl z_)), (q6, .inl (K 0, 30, .inl z_)), (q7, .inl (K 1, 30, .inl z_)), (q8, .inl (K 0, 30, .inl z_)), (q9, .inl (K 0, 30, .inl z_)), (q10, .inl (K 0, 30, .inl z_)), (q11, .inl (K 0, 30, .inl z_)), (q12, .inl (K 0, 30, .inl z_))] := hD
  refine W.widen (k := 12) (n := 360) (Nat.le_of_ble_eq_true rfl) (Nat.le_of_ble_eq_true rfl) ?_
  exact W.vret hx hb hr (fun t ht hW => ⟨⟨(), rfl, trivial, _, ⟨q1, q2, q3, q4, q5, q6, q7, q8, q9, q10, q11, q12, rfl⟩, by rw [ht]; exact hP, hD⟩, hS.F ht⟩) hS.2.2 dX7_init_100
def PN2 (K : Nat → ClassId) (h0 : Nat) (w1 : va_W) : Prop := ∃ q1 q2 : Nat, w1 = [(h0, .inr (2, [.int 0, .ref q1, .ref q2])), (q1, .inl (K 0, 50, .inl z_)), (q2, .inl (K 1, 50, .inl z_))]
set_option maxHeartbeats 4000000 in
set_option maxRecDepth 100000 in
theorem wn2 (l : Launch) (D : va_G) (K : Nat → ClassId) (h0 sz : Nat) : MN l D K yX2_init cX2_init 1 1 14 2 100 h0 [(h0, .inr (2, [.int 0, .null, .null]))] sz (PN2 K h0) := by
  refine Met.ofW (cc := cX2_init) (maxL := 1) (ret := none) (by decide) rfl ?_
  intro p e s m args below meth c s₁ B hml hv
  obtain ⟨rfl, hsz, hP, hK, hD0⟩ := hv
  have hx := B.exec
  have hb := B.bytes
  have hr := B.returns
  have hts := atoms_spec (ws := Wsd yX2_init cX2_init 1 none) B.pre
  have hown : s.vm.findClass RX2 = some m.cls := findClass_of_methodNamed B.named
  have hin : meth.name = "<init>" := (name_of_methodNamed B.named B.method).1
  subst hsz
  have hD := hD0.self (sz := s.heap.size)
  generalize hAe : va_A [(h0, .inr (2, [.int 0, .null, .null]))] s.heap.size = A at hD ⊢
  have hA : ∀ q : Nat, s.heap.size ≤ q → A q := fun q h => by rw [← hAe]; exact Or.inr h
  have hS : va_S A s.heap s.heap [] := va_S.rf
  have hP : va_P D vwCl [(h0, .inr (2, [.int 0, .null, .null]))] s.heap := hP
  have hl := lv_entry ([.ref h0]) (n := 1) (Nat.le_of_ble_eq_true rfl)
  rw [lg_entry_eq]
  generalize (lg_sl ([.ref h0]) ++ List.replicate (1 - (lg_sl ([.ref h0])).length) Slot.unset).toArray = ls at hl ⊢
  have hl : lv_has ls 1 [(0, .ref h0)] := hl
  refine lv_aload_n hx hb dX2_init_0 rfl (lv_at hl 0 rfl) ?_
  refine W.objInit hx hb hown (hts (.methodLink RX2 3 objectInit) (List.mem_cons_of_mem _ (gw_t (tin1 (List.mem_of_getElem? (i := 196) rfl)) rfl))) (hts (.instanceMethod objectInit) (List.mem_cons_of_mem _ (gw_t (tin1 (List.mem_of_getElem? (i := 37) rfl)) rfl))) (hts (.code objectInit ⟨#[0xb1]⟩ 1 none) (List.mem_cons_of_mem _ (gw_t (tin1 (List.mem_of_getElem? (i := 38) rfl)) rfl))) rfl (by rw [hml]; exact hl.1) rfl dX2_init_1 (Nat.le_of_ble_eq_true rfl) (Nat.le_of_ble_eq_true rfl) ?_
  refine W.eq (g2 := F0 m 4 ls []) rfl ?_
  refine lv_aload_n hx hb dX2_init_4 rfl (lv_at hl 0 rfl) ?_
  refine lv_bipush (v := 50) hx hb dX2_init_5 (by decide) ?_
  refine va_newa (atype := .int) (ty := .int) (a0 := (50, .inl z_)) hx hb (hts (.arrayClass .int) (List.mem_cons_of_mem _ (gw_t (tin1 (List.mem_of_getElem? (i := 83) rfl)) rfl))) rfl hK hP hD hS hA (fun cA => rfl) (by decide) (N' := 50) (by decide) (Nat.le_of_ble_eq_true rfl) (Nat.le_of_ble_eq_true rfl) (Nat.le_of_ble_eq_true rfl) dX2_init_7 (fun q1 cA H hK1 hP hD hS => ?_)
  have ec := cA_int hK1
  subst ec
  have hP : va_P D vwCl [(h0, .inr (2, [.int 0, .null, .null])), (q1, .inl (K 0, 50, .inl z_))] H := hP
  have hD : va_D A [(h0, .inr (2, [.int 0, .null, .null])), (q1, .inl (K 0, 50, .inl z_))] := hD
  refine va_putF (D := D) (ci := 2) (v := .ref q1) (ty := .array .int) (C := RX2) (T := TX2) (N := 3) hx hb hts (fun w h => List.mem_cons_of_mem _ (inX2 w h)) tyX2 tyX2_ok nmX2 hown hK hP hD hS 0 rfl rfl 1 (by decide) (hts _ (List.mem_cons_of_mem _ (gw_t (tin1 (List.mem_of_getElem? (i := 201) rfl)) rfl))) (fun _ h9 => h9) rfl hin rfl (by decide +kernel) rfl rfl (Nat.le_of_ble_eq_true rfl) dX2_init_9 (fun H locs hP hD hS => ?_)
  have hP : va_P D vwCl [(h0, .inr (2, [.int 0, .ref q1, .null])), (q1, .inl (K 0, 50, .inl z_))] H := hP
  have hD : va_D A [(h0, .inr (2, [.int 0, .ref q1, .null])), (q1, .inl (K 0, 50, .inl z_))] := hD
  refine lv_aload_n hx hb dX2_init_12 rfl (lv_at hl 0 rfl) ?_
  refine lv_bipush (v := 50) hx hb dX2_init_13 (by decide) ?_
  refine va_newa (atype := .boolean) (ty := .boolean) (a0 := (50, .inl z_)) hx hb (hts (.arrayClass .boolean) (List.mem_cons_of_mem _ (gw_t (tin1 (List.mem_of_getElem? (i := 190) rfl)) rfl))) rfl hK hP hD hS hA (fun cA => rfl) (by decide) (N' := 50) (by decide) (Nat.le_of_ble_eq_true rfl) (Nat.le_of_ble_eq_true rfl) (Nat.le_of_ble_eq_true rfl) dX2_init_15 (fun q2 cA H hK1 hP hD hS => ?_)
  have ec := cA_boolean hK1
  subst ec
  have hP : va_P D vwCl [(h0, .inr (2, [.int 0, .ref q1, .null])), (q1, .inl (K 0, 50, .inl z_)), (q2, .inl (K 1, 50, .inl z_))] H := hP
  have hD : va_D A [(h0, .inr (2, [.int 0, .ref q1, .null])), (q1, .inl (K 0, 50, .inl z_)), (q2, .inl (K 1, 50, .inl z_))] := hD
  refine va_putF (D := D) (ci := 2) (v := .ref q2) (ty := .array .boolean) (C := RX2) (T := TX2) (N := 3) hx hb hts (fun w h => List.mem_cons_of_mem _ (inX2 w h)) tyX2 tyX2_ok nmX2 hown hK hP hD hS 0 rfl rfl 2 (by decide) (hts _ (List.mem_cons_of_mem _ (gw_t (tin1 (List.mem_of_getElem? (i := 204) rfl)) rfl))) (fun _ h9 => h9) rfl hin rfl (by decide +kernel) rfl rfl (Nat.le_of_ble_eq_true rfl) dX2_init_17 (fun H locs hP hD hS => ?_)
  have hP : va_P D vwCl [(h0, .inr (2, [.int 0, .ref q1, .ref q2])), (q1, .inl (K 0, 50, .inl z_)), (q2, .inl (K 1, 50, .inl z_))] H := hP
  have hD : va_D A [(h0, .inr (2, [.int 0, .ref q1, .ref q2])), (q1, .inl (K 0, 50, .inl z_)), (q2, .inl (K 1, 50, .inl z_))] := hD
  refine W.widen (k := 2) (n := 100) (Nat.le_of_ble_eq_true rfl) (Nat.le_of_ble_eq_true rfl) ?_
  exact W.vret hx hb hr (fun t ht hW => ⟨⟨(), rfl, trivial, _, ⟨q1, q2, rfl⟩, by rw [ht]; exact hP, hD⟩, hS.F ht⟩) hS.2.2 dX2_init_20
def PN8 (K : Nat → ClassId) (h0 : Nat) (w1 : va_W) : Prop := ∃ q1 : Nat, w1 = [(h0, .inr (8, [.ref q1, .int 0])), (q1, .inl (K 2, 14, .inl z_))]
set_option maxHeartbeats 4000000 in
set_option maxRecDepth 100000 in
theorem wn8 (l : Launch) (D : va_G) (K : Nat → ClassId) (h0 sz : Nat) : MN l D K yX8_init cX8_init 1 1 14 1 14 h0 [(h0, .inr (8, [.null, .int 0]))] sz (PN8 K h0) := by
  refine Met.ofW (cc := cX8_init) (maxL := 1) (ret := none) (by decide) rfl ?_
  intro p e s m args below meth c s₁ B hml hv
  obtain ⟨rfl, hsz, hP, hK, hD0⟩ := hv
  have hx := B.exec
  have hb := B.bytes
  have hr := B.returns
  have hts := atoms_spec (ws := Wsd yX8_init cX8_init 1 none) B.pre
  have hown : s.vm.findClass RX8 = some m.cls := findClass_of_methodNamed B.named
  have hin : meth.name = "<init>" := (name_of_methodNamed B.named B.method).1
  subst hsz
  have hD := hD0.self (sz := s.heap.size)
  generalize hAe : va_A [(h0, .inr (8, [.null, .int 0]))] s.heap.size = A at hD ⊢
  have hA : ∀ q : Nat, s.heap.size ≤ q → A q := fun q h => by rw [← hAe]; exact Or.inr h
  have hS : va_S A s.heap s.heap [] := va_S.rf
  have hP : va_P D vwCl [(h0, .inr (8, [.null, .int 0]))] s.heap := hP
  have hl := lv_entry ([.ref h0]) (n := 1) (Nat.le_of_ble_eq_true rfl)
  rw [lg_entry_eq]
  generalize (lg_sl ([.ref h0]) ++ List.replicate (1 - (lg_sl ([.ref h0])).length) Slot.unset).toArray = ls at hl ⊢
  have hl : lv_has ls 1 [(0, .ref h0)] := hl
  refine lv_aload_n hx hb dX8_init_0 rfl (lv_at hl 0 rfl) ?_
  refine W.objInit hx hb hown (hts (.methodLink RX8 3 objectInit) (List.mem_cons_of_mem _ (gw_t (tin2 (List.mem_of_getElem? (i := 119) rfl)) rfl))) (hts (.instanceMethod objectInit) (List.mem_cons_of_mem _ (gw_t (tin1 (List.mem_of_getElem? (i := 37) rfl)) rfl))) (hts (.code objectInit ⟨#[0xb1]⟩ 1 none) (List.mem_cons_of_mem _ (gw_t (tin1 (List.mem_of_getElem? (i := 38) rfl)) rfl))) rfl (by rw [hml]; exact hl.1) rfl dX8_init_1 (Nat.le_of_ble_eq_true rfl) (Nat.le_of_ble_eq_true rfl) ?_
  refine W.eq (g2 := F0 m 4 ls []) rfl ?_
  refine lv_aload_n hx hb dX8_init_4 rfl (lv_at hl 0 rfl) ?_
  refine lv_bipush (v := 14) hx hb dX8_init_5 (by decide) ?_
  refine va_newa (atype := .byte) (ty := .byte) (a0 := (14, .inl z_)) hx hb (hts (.arrayClass .byte) (List.mem_cons_of_mem _ (gw_t (tin2 (List.mem_of_getElem? (i := 97) rfl)) rfl))) rfl hK hP hD hS hA (fun cA => rfl) (by decide) (N' := 14) (by decide) (Nat.le_of_ble_eq_true rfl) (Nat.le_of_ble_eq_true rfl) (Nat.le_of_ble_eq_true rfl) dX8_init_7 (fun q1 cA H hK1 hP hD hS => ?_)
  have ec := cA_byte hK1
  subst ec
  have hP : va_P D vwCl [(h0, .inr (8, [.null, .int 0])), (q1, .inl (K 2, 14, .inl z_))] H := hP
  have hD : va_D A [(h0, .inr (8, [.null, .int 0])), (q1, .inl (K 2, 14, .inl z_))] := hD
  refine va_putF (D := D) (ci := 8) (v := .ref q1) (ty := .array .byte) (C := RX8) (T := TX8) (N := 2) hx hb hts (fun w h => List.mem_cons_of_mem _ (inX8 w h)) tyX8 tyX8_ok nmX8 hown hK hP hD hS 0 rfl rfl 0 (by decide) (hts _ (List.mem_cons_of_mem _ (gw_t (tin2 (List.mem_of_getElem? (i := 120) rfl)) rfl))) (fun _ h9 => h9) rfl hin rfl (by decide +kernel) rfl rfl (Nat.le_of_ble_eq_true rfl) dX8_init_9 (fun H locs hP hD hS => ?_)
  have hP : va_P D vwCl [(h0, .inr (8, [.ref q1, .int 0])), (q1, .inl (K 2, 14, .inl z_))] H := hP
  have hD : va_D A [(h0, .inr (8, [.ref q1, .int 0])), (q1, .inl (K 2, 14, .inl z_))] := hD
  refine W.widen (k := 1) (n := 14) (Nat.le_of_ble_eq_true rfl) (Nat.le_of_ble_eq_true rfl) ?_
  exact W.vret hx hb hr (fun t ht hW => ⟨⟨(), rfl, trivial, _, ⟨q1, rfl⟩, by rw [ht]; exact hP, hD⟩, hS.F ht⟩) hS.2.2 dX8_init_12
def PN6 (K : Nat → ClassId) (h0 : Nat) (w1 : va_W) : Prop := ∃ q1 : Nat, w1 = [(h0, .inr (6, [.ref q1, .int 0, .int 0, .int 0, .int 0])), (q1, .inl (K 2, 500, .inl z_))]
set_option maxHeartbeats 4000000 in
set_option maxRecDepth 100000 in
theorem wn6 (l : Launch) (D : va_G) (K : Nat → ClassId) (h0 sz : Nat) : MN l D K yX6_init cX6_init 1 1 14 1 500 h0 [(h0, .inr (6, [.null, .int 0, .int 0, .int 0, .int 0]))] sz (PN6 K h0) := by
  refine Met.ofW (cc := cX6_init) (maxL := 1) (ret := none) (by decide) rfl ?_
  intro p e s m args below meth c s₁ B hml hv
  obtain ⟨rfl, hsz, hP, hK, hD0⟩ := hv
  have hx := B.exec
  have hb := B.bytes
  have hr := B.returns
  have hts := atoms_spec (ws := Wsd yX6_init cX6_init 1 none) B.pre
  have hown : s.vm.findClass RX6 = some m.cls := findClass_of_methodNamed B.named
  have hin : meth.name = "<init>" := (name_of_methodNamed B.named B.method).1
  subst hsz
  have hD := hD0.self (sz := s.heap.size)
  generalize hAe : va_A [(h0, .inr (6, [.null, .int 0, .int 0, .int 0, .int 0]))] s.heap.size = A at hD ⊢
  have hA : ∀ q : Nat, s.heap.size ≤ q → A q := fun q h => by rw [← hAe]; exact Or.inr h
  have hS : va_S A s.heap s.heap [] := va_S.rf
  have hP : va_P D vwCl [(h0, .inr (6, [.null, .int 0, .int 0, .int 0, .int 0]))] s.heap := hP
  have hl := lv_entry ([.ref h0]) (n := 1) (Nat.le_of_ble_eq_true rfl)
  rw [lg_entry_eq]
  generalize (lg_sl ([.ref h0]) ++ List.replicate (1 - (lg_sl ([.ref h0])).length) Slot.unset).toArray = ls at hl ⊢
  have hl : lv_has ls 1 [(0, .ref h0)] := hl
  refine lv_aload_n hx hb dX6_init_0 rfl (lv_at hl 0 rfl) ?_
  refine W.objInit hx hb hown (hts (.methodLink RX6 3 objectInit) (List.mem_cons_of_mem _ (gw_t (tin2 (List.mem_of_getElem? (i := 77) rfl)) rfl))) (hts (.instanceMethod objectInit) (List.mem_cons_of_mem _ (gw_t (tin1 (List.mem_of_getElem? (i := 37) rfl)) rfl))) (hts (.code objectInit ⟨#[0xb1]⟩ 1 none) (List.mem_cons_of_mem _ (gw_t (tin1 (List.mem_of_getElem? (i := 38) rfl)) rfl))) rfl (by rw [hml]; exact hl.1) rfl dX6_init_1 (Nat.le_of_ble_eq_true rfl) (Nat.le_of_ble_eq_true rfl) ?_
  refine W.eq (g2 := F0 m 4 ls []) rfl ?_
  refine lv_aload_n hx hb dX6_init_4 rfl (lv_at hl 0 rfl) ?_
  refine lv_sipush (v := 500) hx hb dX6_init_5 (by decide) ?_
  refine va_newa (atype := .byte) (ty := .byte) (a0 := (500, .inl z_)) hx hb (hts (.arrayClass .byte) (List.mem_cons_of_mem _ (gw_t (tin2 (List.mem_of_getElem? (i := 97) rfl)) rfl))) rfl hK hP hD hS hA (fun cA => rfl) (by decide) (N' := 500) (by decide) (Nat.le_of_ble_eq_true rfl) (Nat.le_of_ble_eq_true rfl) (Nat.le_of_ble_eq_true rfl) dX6_init_8 (fun q1 cA H hK1 hP hD hS => ?_)
  have ec := cA_byte hK1
  subst ec
  have hP : va_P D vwCl [(h0, .inr (6, [.null, .int 0, .int 0, .int 0, .int 0])), (q1, .inl (K 2, 500, .inl z_))] H := hP
  have hD : va_D A [(h0, .inr (6, [.null, .int 0, .int 0, .int 0, .int 0])), (q1, .inl (K 2, 500, .inl z_))] := hD
  refine va_putF (D := D) (ci := 6) (v := .ref q1) (ty := .array .byte) (C := RX6) (T := TX6) (N := 5) hx hb hts (fun w h => List.mem_cons_of_mem _ (inX6 w h)) tyX6 tyX6_ok nmX6 hown hK hP hD hS 0 rfl rfl 0 (by decide) (hts _ (List.mem_cons_of_mem _ (gw_t (tin2 (List.mem_of_getElem? (i := 78) rfl)) rfl))) (fun _ h9 => h9) rfl hin rfl (by decide +kernel) rfl rfl (Nat.le_of_ble_eq_true rfl) dX6_init_10 (fun H locs hP hD hS => ?_)
  have hP : va_P D vwCl [(h0, .inr (6, [.ref q1, .int 0, .int 0, .int 0, .int 0])), (q1, .inl (K 2, 500, .inl z_))] H := hP
  have hD : va_D A [(h0, .inr (6, [.ref q1, .int 0, .int 0, .int 0, .int 0])), (q1, .inl (K 2, 500, .inl z_))] := hD
  refine W.widen (k := 1) (n := 500) (Nat.le_of_ble_eq_true rfl) (Nat.le_of_ble_eq_true rfl) ?_
  exact W.vret hx hb hr (fun t ht hW => ⟨⟨(), rfl, trivial, _, ⟨q1, rfl⟩, by rw [ht]; exact hP, hD⟩, hS.F ht⟩) hS.2.2 dX6_init_13
