/-! printed: the reference's constructor -/
def MNm (l : Launch) (Γ : Wc) (fr lo mc ms h0 sz : Nat) (τ0 : Sig) : Prop :=
  Met l yX12_init (Wsd yX12_init cX12_init 2 none) { frames := fr, cells := mc, slots := ms, locals := lo } (va_Pc [.ref h0] (fun U => U.heap.size = sz ∧ va_P Γ.1 vwCl [(h0, .inr (12, [.int 0, .null, .null, .int 0, .null, .int 0, .null, .null, .int 0, .null, .int 0, .int 0, .int 0, .int 0, .int 0, .int 0, .int 0, .int 0, .int 0]))] U.heap ∧ va_K Γ.1 vwCl (tyK Γ.2.1) U ∧ va_D (fun _ => True) [(h0, .inr (12, [.int 0, .null, .null, .int 0, .null, .int 0, .null, .null, .int 0, .null, .int 0, .int 0, .int 0, .int 0, .int 0, .int 0, .int 0, .int 0, .int 0]))] ∧ va_AOA .int U ∧ ZH Γ (va_A [(h0, .inr (12, [.int 0, .null, .null, .int 0, .null, .int 0, .null, .null, .int 0, .null, .int 0, .int 0, .int 0, .int 0, .int 0, .int 0, .int 0, .int 0, .int 0]))] sz) U U.heap ∧ ZV Γ U)) (va_Qv (fun _ : Unit => True) (fun _ t => ∃ ad : Nat → Nat → Nat, ad 0 0 = h0 ∧ PX SM Γ ad τ0 t.heap ∧ AX SM ad (va_A [(h0, .inr (12, [.int 0, .null, .null, .int 0, .null, .int 0, .null, .null, .int 0, .null, .int 0, .int 0, .int 0, .int 0, .int 0, .int 0, .int 0, .int 0, .int 0]))] sz)) (va_A [(h0, .inr (12, [.int 0, .null, .null, .int 0, .null, .int 0, .null, .null, .int 0, .null, .int 0, .int 0, .int 0, .int 0, .int 0, .int 0, .int 0, .int 0, .int 0]))] sz)) mc ms (va_A [(h0, .inr (12, [.int 0, .null, .null, .int 0, .null, .int 0, .null, .null, .int 0, .null, .int 0, .int 0, .int 0, .int 0, .int 0, .int 0, .int 0, .int 0, .int 0]))] sz)
set_option maxHeartbeats 8000000 in
set_option maxRecDepth 100000 in
theorem wn12 (l : Launch) (Γ : Wc) (h0 sz : Nat) (σ0 : Sig) (hF : fM = some σ0) : MNm l Γ 4 90 14 6418 h0 sz σ0 := by
  refine Met.ofW (cc := cX12_init) (maxL := 2) (ret := none) (by decide) rfl ?_
  intro p e s m args below meth c s₁ B hml hv
  obtain ⟨rfl, hsz, hP, hK, hD0, hAO, hZ, hV⟩ := hv
  have hx := B.exec
  have hb := B.bytes
  have hr := B.returns
  have hts := atoms_spec (ws := Wsd yX12_init cX12_init 2 none) B.pre
  have htg : ∀ w ∈ gw, w.before _ s = true := fun w h => hts w (List.mem_cons_of_mem _ h)
  have hown : s.vm.findClass RX12 = some m.cls := findClass_of_methodNamed B.named
  have hin : meth.name = "<init>" := (name_of_methodNamed B.named B.method).1
  have hnl := B.notSynchronized
  subst hsz
  have hD := hD0.self (sz := s.heap.size)
  generalize hAe : va_A [(h0, .inr (12, [.int 0, .null, .null, .int 0, .null, .int 0, .null, .null, .int 0, .null, .int 0, .int 0, .int 0, .int 0, .int 0, .int 0, .int 0, .int 0, .int 0]))] s.heap.size = A at hD hZ ⊢
  have hA : ∀ q : Nat, s.heap.size ≤ q → A q := fun q h => by rw [← hAe]; exact Or.inr h
  have hS : va_S A s.heap s.heap [] := va_S.rf
  have hP : va_P Γ.1 vwCl [(h0, .inr (12, [.int 0, .null, .null, .int 0, .null, .int 0, .null, .null, .int 0, .null, .int 0, .int 0, .int 0, .int 0, .int 0, .int 0, .int 0, .int 0, .int 0]))] s.heap := hP
  have hl := lv_entry ([.ref h0]) (n := 2) (Nat.le_of_ble_eq_true rfl)
  rw [lg_entry_eq]
  generalize (lg_sl ([.ref h0]) ++ List.replicate (2 - (lg_sl ([.ref h0])).length) Slot.unset).toArray = ls at hl ⊢
  have hl : lv_has ls 2 [(0, .ref h0)] := hl
  refine lv_aload_n hx hb dX12_init_0 rfl (lv_at hl 0 rfl) ?_
  refine W.objInit hx hb hown (htg (.methodLink RX12 3 objectInit) (gw_t (tin7 (List.mem_of_getElem? (i := 39) rfl)) rfl)) (htg (.instanceMethod objectInit) (gw_t (tin1 (List.mem_of_getElem? (i := 34) rfl)) rfl)) (htg (.code objectInit ⟨#[0xb1]⟩ 1 none) (gw_t (tin1 (List.mem_of_getElem? (i := 35) rfl)) rfl)) rfl (by rw [hml]; exact hl.1) rfl dX12_init_1 (Nat.le_of_ble_eq_true rfl) (Nat.le_of_ble_eq_true rfl) ?_
  refine W.eq (g2 := F0 m 4 ls []) rfl ?_
  refine lv_aload_n hx hb dX12_init_4 rfl (lv_at hl 0 rfl) ?_
  refine lv_sipush (v := 536) hx hb dX12_init_5 (by decide) ?_
  refine va_newa (atype := .int) (ty := .int) (a0 := (536, .inl z_)) hx hb (htg (.arrayClass .int) (gw_t (tin1 (List.mem_of_getElem? (i := 80) rfl)) rfl)) rfl hK hP hD hS hA (fun cA => rfl) (by decide) (N' := 536) (by decide) (Nat.le_of_ble_eq_true rfl) (Nat.le_of_ble_eq_true rfl) (Nat.le_of_ble_eq_true rfl) dX12_init_8 (fun qw cA H hK1 hP hD hS => ?_)
  have ec := cA_int hK1
  subst ec
  refine va_putF (D := Γ.1) (ci := 12) (v := .ref qw) (ty := .array .int) (C := RX12) (T := TX12) (N := 19) hx hb htg inX12 tyX12 tyX12_ok nmX12 hown hK hP hD hS 0 rfl rfl 1 (by decide) (htg _ (gw_t (tin7 (List.mem_of_getElem? (i := 135) rfl)) rfl)) (fun _ h9 => h9) rfl hin rfl (by decide +kernel) rfl rfl (Nat.le_of_ble_eq_true rfl) dX12_init_10 (fun H locs hP hD hS => ?_)
  have hP : va_P Γ.1 vwCl ([(h0, .inr (12, [.int 0, .ref qw, .null, .int 0, .null, .int 0, .null, .null, .int 0, .null, .int 0, .int 0, .int 0, .int 0, .int 0, .int 0, .int 0, .int 0, .int 0])), (qw, .inl (Γ.2.1 0, 536, .inl z_))]) H := hP
  have hD : va_D A ([(h0, .inr (12, [.int 0, .ref qw, .null, .int 0, .null, .int 0, .null, .null, .int 0, .null, .int 0, .int 0, .int 0, .int 0, .int 0, .int 0, .int 0, .int 0, .int 0])), (qw, .inl (Γ.2.1 0, 536, .inl z_))]) := hD
  refine lv_aload_n hx hb dX12_init_13 rfl (lv_at hl 0 rfl) ?_
  refine lv_bipush (v := 8) hx hb dX12_init_14 (by decide) ?_
  refine lv_sipush (v := 536) hx hb dX12_init_16 (by decide) ?_
  have hcy : s.vm.findClass (FieldType.array .int).toString = some (Γ.2.1 0) := (hK.2 0 _ rfl).2
  refine va_mna (X := [(h0, .inr (12, [.int 0, .ref qw, .null, .int 0, .null, .int 0, .null, .null, .int 0, .null, .int 0, .int 0, .int 0, .int 0, .int 0, .int 0, .int 0, .int 0, .int 0])), (qw, .inl (Γ.2.1 0, 536, .inl z_))]) (L := []) (f := fun _ => .inl (Γ.2.1 0, 536, .inl z_)) (ty := .int) (z := (536, .inl z_)) (N' := 8) (K' := 536) hx hb hown (htg (.classLink RX12 13 "[[I") (gw_t (tin7 (List.mem_of_getElem? (i := 40) rfl)) rfl)) hAO (htg (.arrayClass .int) (gw_t (tin1 (List.mem_of_getElem? (i := 80) rfl)) rfl)) hcy hK (by exact hP) (by exact hD) hS hA (by decide) (by decide) (by decide) (by decide) (Nat.le_of_ble_eq_true rfl) (Nat.le_of_ble_eq_true rfl) (Nat.le_of_ble_eq_true rfl) (by decide) (by decide) (Nat.le_of_ble_eq_true rfl) (Nat.le_of_ble_eq_true rfl) (fun c => arrV_new c 536 (.int 0)) dX12_init_19 (fun qp r cA H hinj hnL hK1 hP hD hS => ?_)
  have ec := cA_rows hK1
  subst ec
  have er : va_pl ([] ++ (List.range 8).map r) (vr_up (fun _ => (.inl (Γ.2.1 0, 536, .inl z_) : va_E)) ((List.range 8).map r) (.inl (Γ.2.1 0, 536, .inl z_))) = (List.range 8).map (fun i => (r i, (.inl (Γ.2.1 0, 536, .inl z_) : va_E))) := by
    rw [show vr_up (fun _ => (.inl (Γ.2.1 0, 536, .inl z_) : va_E)) ((List.range 8).map r) (.inl (Γ.2.1 0, 536, .inl z_)) = fun _ => .inl (Γ.2.1 0, 536, .inl z_) from funext fun a => by unfold vr_up; split <;> rfl]
    rfl
  rw [er] at hP hD
  have hP : va_P Γ.1 vwCl ([(h0, .inr (12, [.int 0, .ref qw, .null, .int 0, .null, .int 0, .null, .null, .int 0, .null, .int 0, .int 0, .int 0, .int 0, .int 0, .int 0, .int 0, .int 0, .int 0])), (qw, .inl (Γ.2.1 0, 536, .inl z_)), (qp, .inl (Γ.2.1 4, 8, .inr (.inr (.inr (.inr (mrf r))))))] ++ (List.range 8).map (fun i => (r i, (.inl (Γ.2.1 0, 536, .inl z_) : va_E)))) H := hP
  have hD : va_D A ([(h0, .inr (12, [.int 0, .ref qw, .null, .int 0, .null, .int 0, .null, .null, .int 0, .null, .int 0, .int 0, .int 0, .int 0, .int 0, .int 0, .int 0, .int 0, .int 0])), (qw, .inl (Γ.2.1 0, 536, .inl z_)), (qp, .inl (Γ.2.1 4, 8, .inr (.inr (.inr (.inr (mrf r))))))] ++ (List.range 8).map (fun i => (r i, (.inl (Γ.2.1 0, 536, .inl z_) : va_E)))) := hD
  refine va_putF (D := Γ.1) (ci := 12) (v := .ref qp) (ty := .array (.array .int)) (C := RX12) (T := TX12) (N := 19) hx hb htg inX12 tyX12 tyX12_ok nmX12 hown hK hP hD hS 0 rfl rfl 2 (by decide) (htg _ (gw_t (tin7 (List.mem_of_getElem? (i := 136) rfl)) rfl)) (fun _ h9 => h9) rfl hin rfl (by decide +kernel) rfl rfl (Nat.le_of_ble_eq_true rfl) dX12_init_23 (fun H locs hP hD hS => ?_)
  have hP : va_P Γ.1 vwCl ([(h0, .inr (12, [.int 0, .ref qw, .ref qp, .int 0, .null, .int 0, .null, .null, .int 0, .null, .int 0, .int 0, .int 0, .int 0, .int 0, .int 0, .int 0, .int 0, .int 0])), (qw, .inl (Γ.2.1 0, 536, .inl z_)), (qp, .inl (Γ.2.1 4, 8, .inr (.inr (.inr (.inr (mrf r))))))] ++ (List.range 8).map (fun i => (r i, (.inl (Γ.2.1 0, 536, .inl z_) : va_E)))) H := hP
  have hD : va_D A ([(h0, .inr (12, [.int 0, .ref qw, .ref qp, .int 0, .null, .int 0, .null, .null, .int 0, .null, .int 0, .int 0, .int 0, .int 0, .int 0, .int 0, .int 0, .int 0, .int 0])), (qw, .inl (Γ.2.1 0, 536, .inl z_)), (qp, .inl (Γ.2.1 4, 8, .inr (.inr (.inr (.inr (mrf r))))))] ++ (List.range 8).map (fun i => (r i, (.inl (Γ.2.1 0, 536, .inl z_) : va_E)))) := hD
  refine lv_aload_n hx hb dX12_init_26 rfl (lv_at hl 0 rfl) ?_
  refine lv_sipush (v := 536) hx hb dX12_init_27 (by decide) ?_
  refine va_newa (atype := .int) (ty := .int) (a0 := (536, .inl z_)) hx hb (htg (.arrayClass .int) (gw_t (tin1 (List.mem_of_getElem? (i := 80) rfl)) rfl)) rfl hK hP hD hS hA (fun cA => rfl) (by decide) (N' := 536) (by decide) (Nat.le_of_ble_eq_true rfl) (Nat.le_of_ble_eq_true rfl) (Nat.le_of_ble_eq_true rfl) dX12_init_30 (fun qs cA H hK1 hP hD hS => ?_)
  have ec := cA_int hK1
  subst ec
  have hP := hP
  have hD := hD
  have hP : va_P Γ.1 vwCl ([(h0, .inr (12, [.int 0, .ref qw, .ref qp, .int 0, .null, .int 0, .null, .null, .int 0, .null, .int 0, .int 0, .int 0, .int 0, .int 0, .int 0, .int 0, .int 0, .int 0])), (qw, .inl (Γ.2.1 0, 536, .inl z_)), (qp, .inl (Γ.2.1 4, 8, .inr (.inr (.inr (.inr (mrf r))))))] ++ (List.range 8).map (fun i => (r i, (.inl (Γ.2.1 0, 536, .inl z_) : va_E))) ++ [(qs, .inl (Γ.2.1 0, 536, .inl z_))]) H := hP
  have hD : va_D A ([(h0, .inr (12, [.int 0, .ref qw, .ref qp, .int 0, .null, .int 0, .null, .null, .int 0, .null, .int 0, .int 0, .int 0, .int 0, .int 0, .int 0, .int 0, .int 0, .int 0])), (qw, .inl (Γ.2.1 0, 536, .inl z_)), (qp, .inl (Γ.2.1 4, 8, .inr (.inr (.inr (.inr (mrf r))))))] ++ (List.range 8).map (fun i => (r i, (.inl (Γ.2.1 0, 536, .inl z_) : va_E))) ++ [(qs, .inl (Γ.2.1 0, 536, .inl z_))]) := hD
  refine va_putF (D := Γ.1) (ci := 12) (v := .ref qs) (ty := .array .int) (C := RX12) (T := TX12) (N := 19) hx hb htg inX12 tyX12 tyX12_ok nmX12 hown hK hP hD hS 0 rfl rfl 4 (by decide) (htg _ (gw_t (tin7 (List.mem_of_getElem? (i := 138) rfl)) rfl)) (fun _ h9 => h9) rfl hin rfl (by decide +kernel) rfl rfl (Nat.le_of_ble_eq_true rfl) dX12_init_32 (fun H locs hP hD hS => ?_)
  have hP : va_P Γ.1 vwCl ([(h0, .inr (12, [.int 0, .ref qw, .ref qp, .int 0, .ref qs, .int 0, .null, .null, .int 0, .null, .int 0, .int 0, .int 0, .int 0, .int 0, .int 0, .int 0, .int 0, .int 0])), (qw, .inl (Γ.2.1 0, 536, .inl z_)), (qp, .inl (Γ.2.1 4, 8, .inr (.inr (.inr (.inr (mrf r))))))] ++ (List.range 8).map (fun i => (r i, (.inl (Γ.2.1 0, 536, .inl z_) : va_E))) ++ [(qs, .inl (Γ.2.1 0, 536, .inl z_))]) H := hP
  have hD : va_D A ([(h0, .inr (12, [.int 0, .ref qw, .ref qp, .int 0, .ref qs, .int 0, .null, .null, .int 0, .null, .int 0, .int 0, .int 0, .int 0, .int 0, .int 0, .int 0, .int 0, .int 0])), (qw, .inl (Γ.2.1 0, 536, .inl z_)), (qp, .inl (Γ.2.1 4, 8, .inr (.inr (.inr (.inr (mrf r))))))] ++ (List.range 8).map (fun i => (r i, (.inl (Γ.2.1 0, 536, .inl z_) : va_E))) ++ [(qs, .inl (Γ.2.1 0, 536, .inl z_))]) := hD
  refine lv_aload_n hx hb dX12_init_35 rfl (lv_at hl 0 rfl) ?_
  refine lv_sipush (v := 536) hx hb dX12_init_36 (by decide) ?_
  refine va_newa (atype := .int) (ty := .int) (a0 := (536, .inl z_)) hx hb (htg (.arrayClass .int) (gw_t (tin1 (List.mem_of_getElem? (i := 80) rfl)) rfl)) rfl hK hP hD hS hA (fun cA => rfl) (by decide) (N' := 536) (by decide) (Nat.le_of_ble_eq_true rfl) (Nat.le_of_ble_eq_true rfl) (Nat.le_of_ble_eq_true rfl) dX12_init_39 (fun qb cA H hK1 hP hD hS => ?_)
  have ec := cA_int hK1
  subst ec
  have hP := hP
  have hD := hD
  rw [List.append_assoc (_ ++ _) _ _] at hP hD
  have hP : va_P Γ.1 vwCl ([(h0, .inr (12, [.int 0, .ref qw, .ref qp, .int 0, .ref qs, .int 0, .null, .null, .int 0, .null, .int 0, .int 0, .int 0, .int 0, .int 0, .int 0, .int 0, .int 0, .int 0])), (qw, .inl (Γ.2.1 0, 536, .inl z_)), (qp, .inl (Γ.2.1 4, 8, .inr (.inr (.inr (.inr (mrf r))))))] ++ (List.range 8).map (fun i => (r i, (.inl (Γ.2.1 0, 536, .inl z_) : va_E))) ++ [(qs, .inl (Γ.2.1 0, 536, .inl z_)), (qb, .inl (Γ.2.1 0, 536, .inl z_))]) H := hP
  have hD : va_D A ([(h0, .inr (12, [.int 0, .ref qw, .ref qp, .int 0, .ref qs, .int 0, .null, .null, .int 0, .null, .int 0, .int 0, .int 0, .int 0, .int 0, .int 0, .int 0, .int 0, .int 0])), (qw, .inl (Γ.2.1 0, 536, .inl z_)), (qp, .inl (Γ.2.1 4, 8, .inr (.inr (.inr (.inr (mrf r))))))] ++ (List.range 8).map (fun i => (r i, (.inl (Γ.2.1 0, 536, .inl z_) : va_E))) ++ [(qs, .inl (Γ.2.1 0, 536, .inl z_)), (qb, .inl (Γ.2.1 0, 536, .inl z_))]) := hD
  refine va_putF (D := Γ.1) (ci := 12) (v := .ref qb) (ty := .array .int) (C := RX12) (T := TX12) (N := 19) hx hb htg inX12 tyX12 tyX12_ok nmX12 hown hK hP hD hS 0 rfl rfl 6 (by decide) (htg _ (gw_t (tin7 (List.mem_of_getElem? (i := 140) rfl)) rfl)) (fun _ h9 => h9) rfl hin rfl (by decide +kernel) rfl rfl (Nat.le_of_ble_eq_true rfl) dX12_init_41 (fun H locs hP hD hS => ?_)
  have hP : va_P Γ.1 vwCl ([(h0, .inr (12, [.int 0, .ref qw, .ref qp, .int 0, .ref qs, .int 0, .ref qb, .null, .int 0, .null, .int 0, .int 0, .int 0, .int 0, .int 0, .int 0, .int 0, .int 0, .int 0])), (qw, .inl (Γ.2.1 0, 536, .inl z_)), (qp, .inl (Γ.2.1 4, 8, .inr (.inr (.inr (.inr (mrf r))))))] ++ (List.range 8).map (fun i => (r i, (.inl (Γ.2.1 0, 536, .inl z_) : va_E))) ++ [(qs, .inl (Γ.2.1 0, 536, .inl z_)), (qb, .inl (Γ.2.1 0, 536, .inl z_))]) H := hP
  have hD : va_D A ([(h0, .inr (12, [.int 0, .ref qw, .ref qp, .int 0, .ref qs, .int 0, .ref qb, .null, .int 0, .null, .int 0, .int 0, .int 0, .int 0, .int 0, .int 0, .int 0, .int 0, .int 0])), (qw, .inl (Γ.2.1 0, 536, .inl z_)), (qp, .inl (Γ.2.1 4, 8, .inr (.inr (.inr (.inr (mrf r))))))] ++ (List.range 8).map (fun i => (r i, (.inl (Γ.2.1 0, 536, .inl z_) : va_E))) ++ [(qs, .inl (Γ.2.1 0, 536, .inl z_)), (qb, .inl (Γ.2.1 0, 536, .inl z_))]) := hD
  refine lv_aload_n hx hb dX12_init_44 rfl (lv_at hl 0 rfl) ?_
  refine lv_sipush (v := 500) hx hb dX12_init_45 (by decide) ?_
  refine va_newa (atype := .int) (ty := .int) (a0 := (500, .inl z_)) hx hb (htg (.arrayClass .int) (gw_t (tin1 (List.mem_of_getElem? (i := 80) rfl)) rfl)) rfl hK hP hD hS hA (fun cA => rfl) (by decide) (N' := 500) (by decide) (Nat.le_of_ble_eq_true rfl) (Nat.le_of_ble_eq_true rfl) (Nat.le_of_ble_eq_true rfl) dX12_init_48 (fun qt cA H hK1 hP hD hS => ?_)
  have ec := cA_int hK1
  subst ec
  have hP := hP
  have hD := hD
  rw [List.append_assoc (_ ++ _) _ _] at hP hD
  have hP : va_P Γ.1 vwCl ([(h0, .inr (12, [.int 0, .ref qw, .ref qp, .int 0, .ref qs, .int 0, .ref qb, .null, .int 0, .null, .int 0, .int 0, .int 0, .int 0, .int 0, .int 0, .int 0, .int 0, .int 0])), (qw, .inl (Γ.2.1 0, 536, .inl z_)), (qp, .inl (Γ.2.1 4, 8, .inr (.inr (.inr (.inr (mrf r))))))] ++ (List.range 8).map (fun i => (r i, (.inl (Γ.2.1 0, 536, .inl z_) : va_E))) ++ [(qs, .inl (Γ.2.1 0, 536, .inl z_)), (qb, .inl (Γ.2.1 0, 536, .inl z_)), (qt, .inl (Γ.2.1 0, 500, .inl z_))]) H := hP
  have hD : va_D A ([(h0, .inr (12, [.int 0, .ref qw, .ref qp, .int 0, .ref qs, .int 0, .ref qb, .null, .int 0, .null, .int 0, .int 0, .int 0, .int 0, .int 0, .int 0, .int 0, .int 0, .int 0])), (qw, .inl (Γ.2.1 0, 536, .inl z_)), (qp, .inl (Γ.2.1 4, 8, .inr (.inr (.inr (.inr (mrf r))))))] ++ (List.range 8).map (fun i => (r i, (.inl (Γ.2.1 0, 536, .inl z_) : va_E))) ++ [(qs, .inl (Γ.2.1 0, 536, .inl z_)), (qb, .inl (Γ.2.1 0, 536, .inl z_)), (qt, .inl (Γ.2.1 0, 500, .inl z_))]) := hD
  refine va_putF (D := Γ.1) (ci := 12) (v := .ref qt) (ty := .array .int) (C := RX12) (T := TX12) (N := 19) hx hb htg inX12 tyX12 tyX12_ok nmX12 hown hK hP hD hS 0 rfl rfl 7 (by decide) (htg _ (gw_t (tin7 (List.mem_of_getElem? (i := 141) rfl)) rfl)) (fun _ h9 => h9) rfl hin rfl (by decide +kernel) rfl rfl (Nat.le_of_ble_eq_true rfl) dX12_init_50 (fun H locs hP hD hS => ?_)
  have hP : va_P Γ.1 vwCl ([(h0, .inr (12, [.int 0, .ref qw, .ref qp, .int 0, .ref qs, .int 0, .ref qb, .ref qt, .int 0, .null, .int 0, .int 0, .int 0, .int 0, .int 0, .int 0, .int 0, .int 0, .int 0])), (qw, .inl (Γ.2.1 0, 536, .inl z_)), (qp, .inl (Γ.2.1 4, 8, .inr (.inr (.inr (.inr (mrf r))))))] ++ (List.range 8).map (fun i => (r i, (.inl (Γ.2.1 0, 536, .inl z_) : va_E))) ++ [(qs, .inl (Γ.2.1 0, 536, .inl z_)), (qb, .inl (Γ.2.1 0, 536, .inl z_)), (qt, .inl (Γ.2.1 0, 500, .inl z_))]) H := hP
  have hD : va_D A ([(h0, .inr (12, [.int 0, .ref qw, .ref qp, .int 0, .ref qs, .int 0, .ref qb, .ref qt, .int 0, .null, .int 0, .int 0, .int 0, .int 0, .int 0, .int 0, .int 0, .int 0, .int 0])), (qw, .inl (Γ.2.1 0, 536, .inl z_)), (qp, .inl (Γ.2.1 4, 8, .inr (.inr (.inr (.inr (mrf r))))))] ++ (List.range 8).map (fun i => (r i, (.inl (Γ.2.1 0, 536, .inl z_) : va_E))) ++ [(qs, .inl (Γ.2.1 0, 536, .inl z_)), (qb, .inl (Γ.2.1 0, 536, .inl z_)), (qt, .inl (Γ.2.1 0, 500, .inl z_))]) := hD
  refine lv_aload_n hx hb dX12_init_53 rfl (lv_at hl 0 rfl) ?_
  refine lv_bipush (v := 14) hx hb dX12_init_54 (by decide) ?_
  refine va_newa (atype := .byte) (ty := .byte) (a0 := (14, .inl z_)) hx hb (htg (.arrayClass .byte) (gw_t (tin2 (List.mem_of_getElem? (i := 97) rfl)) rfl)) rfl hK hP hD hS hA (fun cA => rfl) (by decide) (N' := 14) (by decide) (Nat.le_of_ble_eq_true rfl) (Nat.le_of_ble_eq_true rfl) (Nat.le_of_ble_eq_true rfl) dX12_init_56 (fun qr cA H hK1 hP hD hS => ?_)
  have ec := cA_byte hK1
  subst ec
  have hP := hP
  have hD := hD
  rw [List.append_assoc (_ ++ _) _ _] at hP hD
  have hP : va_P Γ.1 vwCl ([(h0, .inr (12, [.int 0, .ref qw, .ref qp, .int 0, .ref qs, .int 0, .ref qb, .ref qt, .int 0, .null, .int 0, .int 0, .int 0, .int 0, .int 0, .int 0, .int 0, .int 0, .int 0])), (qw, .inl (Γ.2.1 0, 536, .inl z_)), (qp, .inl (Γ.2.1 4, 8, .inr (.inr (.inr (.inr (mrf r))))))] ++ (List.range 8).map (fun i => (r i, (.inl (Γ.2.1 0, 536, .inl z_) : va_E))) ++ [(qs, .inl (Γ.2.1 0, 536, .inl z_)), (qb, .inl (Γ.2.1 0, 536, .inl z_)), (qt, .inl (Γ.2.1 0, 500, .inl z_)), (qr, .inl (Γ.2.1 2, 14, .inl z_))]) H := hP
  have hD : va_D A ([(h0, .inr (12, [.int 0, .ref qw, .ref qp, .int 0, .ref qs, .int 0, .ref qb, .ref qt, .int 0, .null, .int 0, .int 0, .int 0, .int 0, .int 0, .int 0, .int 0, .int 0, .int 0])), (qw, .inl (Γ.2.1 0, 536, .inl z_)), (qp, .inl (Γ.2.1 4, 8, .inr (.inr (.inr (.inr (mrf r))))))] ++ (List.range 8).map (fun i => (r i, (.inl (Γ.2.1 0, 536, .inl z_) : va_E))) ++ [(qs, .inl (Γ.2.1 0, 536, .inl z_)), (qb, .inl (Γ.2.1 0, 536, .inl z_)), (qt, .inl (Γ.2.1 0, 500, .inl z_)), (qr, .inl (Γ.2.1 2, 14, .inl z_))]) := hD
  refine va_putF (D := Γ.1) (ci := 12) (v := .ref qr) (ty := .array .byte) (C := RX12) (T := TX12) (N := 19) hx hb htg inX12 tyX12 tyX12_ok nmX12 hown hK hP hD hS 0 rfl rfl 9 (by decide) (htg _ (gw_t (tin7 (List.mem_of_getElem? (i := 143) rfl)) rfl)) (fun _ h9 => h9) rfl hin rfl (by decide +kernel) rfl rfl (Nat.le_of_ble_eq_true rfl) dX12_init_58 (fun H locs hP hD hS => ?_)
  have hP : va_P Γ.1 vwCl ([(h0, .inr (12, [.int 0, .ref qw, .ref qp, .int 0, .ref qs, .int 0, .ref qb, .ref qt, .int 0, .ref qr, .int 0, .int 0, .int 0, .int 0, .int 0, .int 0, .int 0, .int 0, .int 0])), (qw, .inl (Γ.2.1 0, 536, .inl z_)), (qp, .inl (Γ.2.1 4, 8, .inr (.inr (.inr (.inr (mrf r))))))] ++ (List.range 8).map (fun i => (r i, (.inl (Γ.2.1 0, 536, .inl z_) : va_E))) ++ [(qs, .inl (Γ.2.1 0, 536, .inl z_)), (qb, .inl (Γ.2.1 0, 536, .inl z_)), (qt, .inl (Γ.2.1 0, 500, .inl z_)), (qr, .inl (Γ.2.1 2, 14, .inl z_))]) H := hP
  have hD : va_D A ([(h0, .inr (12, [.int 0, .ref qw, .ref qp, .int 0, .ref qs, .int 0, .ref qb, .ref qt, .int 0, .ref qr, .int 0, .int 0, .int 0, .int 0, .int 0, .int 0, .int 0, .int 0, .int 0])), (qw, .inl (Γ.2.1 0, 536, .inl z_)), (qp, .inl (Γ.2.1 4, 8, .inr (.inr (.inr (.inr (mrf r))))))] ++ (List.range 8).map (fun i => (r i, (.inl (Γ.2.1 0, 536, .inl z_) : va_E))) ++ [(qs, .inl (Γ.2.1 0, 536, .inl z_)), (qb, .inl (Γ.2.1 0, 536, .inl z_)), (qt, .inl (Γ.2.1 0, 500, .inl z_)), (qr, .inl (Γ.2.1 2, 14, .inl z_))]) := hD
  refine lv_aload_n hx hb dX12_init_61 rfl (lv_at hl 0 rfl) ?_
  refine lv_iconst (v := -1) hx hb dX12_init_62 (by decide) ?_
  refine va_put (D := Γ.1) (ci := 12) (v := .int (-1)) (ty := .int) (C := RX12) (T := TX12) (N := 19) hx hb htg inX12 tyX12 tyX12_ok nmX12 hown hK hP hD hS 0 rfl rfl 18 (by decide) (htg _ (gw_t (tin7 (List.mem_of_getElem? (i := 152) rfl)) rfl)) (fun _ h9 => h9) rfl (by decide +kernel) rfl rfl (Nat.le_of_ble_eq_true rfl) dX12_init_63 (fun H locs hP hD hS => ?_)
  have hP : va_P Γ.1 vwCl (mw_ Γ.2.1 h0 qw qp qs qb qt qr r) H := hP
  have hD : va_D A (mw_ Γ.2.1 h0 qw qp qs qb qt qr r) := hD
  have cx : CX SM Γ (mad h0 qw qp qs qb qt qr r) A RX12 cX12_init 2 p s m _ c := ⟨hx, hb, hml, hown, htg, hK, mk_AM hD, hZ, hV⟩
  have hPS : PS SM Γ (mad h0 qw qp qs qb qt qr r) A s τi H locs := ⟨mk_PM hP, hS⟩
  have e00 : mad h0 qw qp qs qb qt qr r 0 0 = h0 := rfl
  generalize mad h0 qw qp qs qb qt qr r = ad at cx hPS e00
  clear hP hD hS
  have hl : lv_has ls 2 [(0, .ref (ad 0 0))] := by rw [e00]; exact hl
  refine W.widen (k := 14) (n := 6418) (Nat.le_of_ble_eq_true rfl) (Nat.le_of_ble_eq_true rfl) ?_
  refine r_aload_n cx dX12_init_66 (lv_at hl 0 rfl) ?_
  unfold fM at hF
  obtain ⟨s1, e1, hF⟩ := bnd_some hF
  refine r_callVv cx hPS (As := []) (w12_empty l Γ ad A  τi s1 e1) mw12_35 ⟨Nat.le_of_ble_eq_true rfl, Nat.le_of_ble_eq_true rfl⟩ (dMr (by decide)) rfl rfl rfl (Nat.le_of_ble_eq_true rfl) hl.1 ⟨Nat.le_of_ble_eq_true rfl, Nat.le_of_ble_eq_true rfl⟩ dX12_init_67 (fun H locs hPS => ?_)
  refine r_aload_n cx dX12_init_70 (lv_at hl 0 rfl) ?_
  refine r_bipush cx 30 dX12_init_71 (by decide) ?_
  obtain ⟨s2, e2, hF⟩ := bnd_some hF
  refine r_callVv cx hPS (As := [.int 30]) (w12_addScentAt l Γ ad A 30 s1 s2 e2) mw12_38 ⟨Nat.le_of_ble_eq_true rfl, Nat.le_of_ble_eq_true rfl⟩ (dMr (by decide)) rfl rfl rfl (Nat.le_of_ble_eq_true rfl) hl.1 ⟨Nat.le_of_ble_eq_true rfl, Nat.le_of_ble_eq_true rfl⟩ dX12_init_73 (fun H locs hPS => ?_)
  refine r_aload_n cx dX12_init_76 (lv_at hl 0 rfl) ?_
  refine r_bipush cx 20 dX12_init_77 (by decide) ?_
  obtain ⟨s3, e3, hF⟩ := bnd_some hF
  refine r_callVv cx hPS (As := [.int 20]) (w12_addScentAt l Γ ad A 20 s2 s3 e3) mw12_38 ⟨Nat.le_of_ble_eq_true rfl, Nat.le_of_ble_eq_true rfl⟩ (dMr (by decide)) rfl rfl rfl (Nat.le_of_ble_eq_true rfl) hl.1 ⟨Nat.le_of_ble_eq_true rfl, Nat.le_of_ble_eq_true rfl⟩ dX12_init_79 (fun H locs hPS => ?_)
  refine r_aload_n cx dX12_init_82 (lv_at hl 0 rfl) ?_
  refine r_bipush cx 15 dX12_init_83 (by decide) ?_
  obtain ⟨s4, e4, hF⟩ := bnd_some hF
  refine r_callVv cx hPS (As := [.int 15]) (w12_addScentAt l Γ ad A 15 s3 s4 e4) mw12_38 ⟨Nat.le_of_ble_eq_true rfl, Nat.le_of_ble_eq_true rfl⟩ (dMr (by decide)) rfl rfl rfl (Nat.le_of_ble_eq_true rfl) hl.1 ⟨Nat.le_of_ble_eq_true rfl, Nat.le_of_ble_eq_true rfl⟩ dX12_init_85 (fun H locs hPS => ?_)
  refine r_aload_n cx dX12_init_88 (lv_at hl 0 rfl) ?_
  refine r_iconst cx 0 dX12_init_89 (by decide) ?_
  refine r_iconst cx 2 dX12_init_90 (by decide) ?_
  refine r_iconst cx 0 dX12_init_91 (by decide) ?_
  refine r_bipush cx 9 dX12_init_92 (by decide) ?_
  obtain ⟨v5, s5, e5, hF⟩ := bns_some hF
  refine r_callVi cx hPS (As := [.int 0, .int 2, .int 0, .int 9]) (w12_makeBed l Γ ad A 0 2 0 9 s4 v5 s5 e5) mw12_42 ⟨Nat.le_of_ble_eq_true rfl, Nat.le_of_ble_eq_true rfl⟩ (dMr (by decide)) rfl rfl rfl (Nat.le_of_ble_eq_true rfl) hl.1 ⟨Nat.le_of_ble_eq_true rfl, Nat.le_of_ble_eq_true rfl⟩ dX12_init_94 (fun H locs hPS => ?_)
  refine r_istore_n cx (lv' := [(1, .int v5), (0, .ref (ad 0 0))]) dX12_init_97 hl (by decide) rfl (fun ls hl => ?_)
  have hl := lv_sub hl (l' := [(0, .ref (ad 0 0))]) [1] rfl
  refine r_aload_n cx dX12_init_98 (lv_at hl 0 rfl) ?_
  refine r_iconst cx 1 dX12_init_99 (by decide) ?_
  refine r_iconst cx 1 dX12_init_100 (by decide) ?_
  refine r_iconst cx 5 dX12_init_101 (by decide) ?_
  refine r_bipush cx 9 dX12_init_102 (by decide) ?_
  obtain ⟨v6, s6, e6, hF⟩ := bns_some hF
  refine r_callVi cx hPS (As := [.int 1, .int 1, .int 5, .int 9]) (w12_makeBed l Γ ad A 1 1 5 9 s5 v6 s6 e6) mw12_42 ⟨Nat.le_of_ble_eq_true rfl, Nat.le_of_ble_eq_true rfl⟩ (dMr (by decide)) rfl rfl rfl (Nat.le_of_ble_eq_true rfl) hl.1 ⟨Nat.le_of_ble_eq_true rfl, Nat.le_of_ble_eq_true rfl⟩ dX12_init_104 (fun H locs hPS => ?_)
  refine r_istore_n cx (lv' := [(1, .int v6), (0, .ref (ad 0 0))]) dX12_init_107 hl (by decide) rfl (fun ls hl => ?_)
  have hl := lv_sub hl (l' := [(0, .ref (ad 0 0))]) [1] rfl
  refine r_aload_n cx dX12_init_108 (lv_at hl 0 rfl) ?_
  refine r_iconst cx 2 dX12_init_109 (by decide) ?_
  refine r_iconst cx 3 dX12_init_110 (by decide) ?_
  refine r_iconst cx 0 dX12_init_111 (by decide) ?_
  refine r_iconst cx 0 dX12_init_112 (by decide) ?_
  obtain ⟨v7, s7, e7, hF⟩ := bns_some hF
  refine r_callVi cx hPS (As := [.int 2, .int 3, .int 0, .int 0]) (w12_makeBed l Γ ad A 2 3 0 0 s6 v7 s7 e7) mw12_42 ⟨Nat.le_of_ble_eq_true rfl, Nat.le_of_ble_eq_true rfl⟩ (dMr (by decide)) rfl rfl rfl (Nat.le_of_ble_eq_true rfl) hl.1 ⟨Nat.le_of_ble_eq_true rfl, Nat.le_of_ble_eq_true rfl⟩ dX12_init_113 (fun H locs hPS => ?_)
  refine r_istore_n cx (lv' := [(1, .int v7), (0, .ref (ad 0 0))]) dX12_init_116 hl (by decide) rfl (fun ls hl => ?_)
  have hl := lv_sub hl (l' := [(0, .ref (ad 0 0))]) [1] rfl
  refine r_aload_n cx dX12_init_117 (lv_at hl 0 rfl) ?_
  refine r_iconst cx 1 dX12_init_118 (by decide) ?_
  refine r_iconst cx 0 dX12_init_119 (by decide) ?_
  refine r_iconst cx 1 dX12_init_120 (by decide) ?_
  refine r_iconst cx 0 dX12_init_121 (by decide) ?_
  obtain ⟨v8, s8, e8, hF⟩ := bns_some hF
  refine r_callVi cx hPS (As := [.int 1, .int 0, .int 1, .int 0]) (w12_makePass l Γ ad A 1 0 1 0 s7 v8 s8 e8) mw12_46 ⟨Nat.le_of_ble_eq_true rfl, Nat.le_of_ble_eq_true rfl⟩ (dMr (by decide)) rfl rfl rfl (Nat.le_of_ble_eq_true rfl) hl.1 ⟨Nat.le_of_ble_eq_true rfl, Nat.le_of_ble_eq_true rfl⟩ dX12_init_122 (fun H locs hPS => ?_)
  refine r_istore_n cx (lv' := [(1, .int v8), (0, .ref (ad 0 0))]) dX12_init_125 hl (by decide) rfl (fun ls hl => ?_)
  have hl := lv_sub hl (l' := [(0, .ref (ad 0 0))]) [1] rfl
  refine r_aload_n cx dX12_init_126 (lv_at hl 0 rfl) ?_
  refine r_iconst cx 3 dX12_init_127 (by decide) ?_
  refine r_iconst cx 0 dX12_init_128 (by decide) ?_
  refine r_bipush cx 6 dX12_init_129 (by decide) ?_
  refine r_iconst cx 0 dX12_init_131 (by decide) ?_
  obtain ⟨v9, s9, e9, hF⟩ := bns_some hF
  refine r_callVi cx hPS (As := [.int 3, .int 0, .int 6, .int 0]) (w12_makePass l Γ ad A 3 0 6 0 s8 v9 s9 e9) mw12_46 ⟨Nat.le_of_ble_eq_true rfl, Nat.le_of_ble_eq_true rfl⟩ (dMr (by decide)) rfl rfl rfl (Nat.le_of_ble_eq_true rfl) hl.1 ⟨Nat.le_of_ble_eq_true rfl, Nat.le_of_ble_eq_true rfl⟩ dX12_init_132 (fun H locs hPS => ?_)
  refine r_istore_n cx (lv' := [(1, .int v9), (0, .ref (ad 0 0))]) dX12_init_135 hl (by decide) rfl (fun ls hl => ?_)
  have hl := lv_sub hl (l' := [(0, .ref (ad 0 0))]) [1] rfl
  refine r_aload_n cx dX12_init_136 (lv_at hl 0 rfl) ?_
  refine r_bipush cx 7 dX12_init_137 (by decide) ?_
  refine r_iconst cx 1 dX12_init_139 (by decide) ?_
  refine r_iconst cx 3 dX12_init_140 (by decide) ?_
  refine r_iconst cx 1 dX12_init_141 (by decide) ?_
  obtain ⟨v10, s10, e10, hF⟩ := bns_some hF
  refine r_callVi cx hPS (As := [.int 7, .int 1, .int 3, .int 1]) (w12_makePass l Γ ad A 7 1 3 1 s9 v10 s10 e10) mw12_46 ⟨Nat.le_of_ble_eq_true rfl, Nat.le_of_ble_eq_true rfl⟩ (dMr (by decide)) rfl rfl rfl (Nat.le_of_ble_eq_true rfl) hl.1 ⟨Nat.le_of_ble_eq_true rfl, Nat.le_of_ble_eq_true rfl⟩ dX12_init_142 (fun H locs hPS => ?_)
  refine r_istore_n cx (lv' := [(1, .int v10), (0, .ref (ad 0 0))]) dX12_init_145 hl (by decide) rfl (fun ls hl => ?_)
  have hl := lv_sub hl (l' := [(0, .ref (ad 0 0))]) [1] rfl
  refine r_aload_n cx dX12_init_146 (lv_at hl 0 rfl) ?_
  refine r_bipush cx 40 dX12_init_147 (by decide) ?_
  obtain ⟨s11, e11, hF⟩ := bnd_some hF
  refine r_callVv cx hPS (As := [.int 40]) (w12_passAll l Γ ad A 40 s10 s11 e11) mw12_49 ⟨Nat.le_of_ble_eq_true rfl, Nat.le_of_ble_eq_true rfl⟩ (dMr (by decide)) rfl rfl rfl (Nat.le_of_ble_eq_true rfl) hl.1 ⟨Nat.le_of_ble_eq_true rfl, Nat.le_of_ble_eq_true rfl⟩ dX12_init_149 (fun H locs hPS => ?_)
  refine r_aload_n cx dX12_init_152 (lv_at hl 0 rfl) ?_
  refine r_iconst cx 0 dX12_init_153 (by decide) ?_
  refine r_iconst cx 0 dX12_init_154 (by decide) ?_
  obtain ⟨v12, s12, e12, hF⟩ := bns_some hF
  refine r_callVi cx hPS (As := [.int 0, .int 0]) (w12_show l Γ ad A 0 0 s11 v12 s12 e12) mw12_52 ⟨Nat.le_of_ble_eq_true rfl, Nat.le_of_ble_eq_true rfl⟩ (dMr (by decide)) rfl rfl rfl (Nat.le_of_ble_eq_true rfl) hl.1 ⟨Nat.le_of_ble_eq_true rfl, Nat.le_of_ble_eq_true rfl⟩ dX12_init_155 (fun H locs hPS => ?_)
  refine r_istore_n cx (lv' := [(1, .int v12), (0, .ref (ad 0 0))]) dX12_init_158 hl (by decide) rfl (fun ls hl => ?_)
  have hl := lv_sub hl (l' := [(0, .ref (ad 0 0))]) [1] rfl
  refine r_aload_n cx dX12_init_159 (lv_at hl 0 rfl) ?_
  refine r_iconst cx 1 dX12_init_160 (by decide) ?_
  refine r_iconst cx 1 dX12_init_161 (by decide) ?_
  obtain ⟨v13, s13, e13, hF⟩ := bns_some hF
  refine r_callVi cx hPS (As := [.int 1, .int 1]) (w12_show l Γ ad A 1 1 s12 v13 s13 e13) mw12_52 ⟨Nat.le_of_ble_eq_true rfl, Nat.le_of_ble_eq_true rfl⟩ (dMr (by decide)) rfl rfl rfl (Nat.le_of_ble_eq_true rfl) hl.1 ⟨Nat.le_of_ble_eq_true rfl, Nat.le_of_ble_eq_true rfl⟩ dX12_init_162 (fun H locs hPS => ?_)
  refine r_istore_n cx (lv' := [(1, .int v13), (0, .ref (ad 0 0))]) dX12_init_165 hl (by decide) rfl (fun ls hl => ?_)
  have hl := lv_sub hl (l' := [(0, .ref (ad 0 0))]) [1] rfl
  refine r_aload_n cx dX12_init_166 (lv_at hl 0 rfl) ?_
  refine r_iconst cx 0 dX12_init_167 (by decide) ?_
  refine r_iconst cx 2 dX12_init_168 (by decide) ?_
  obtain ⟨v14, s14, e14, hF⟩ := bns_some hF
  refine r_callVi cx hPS (As := [.int 0, .int 2]) (w12_take l Γ ad A 0 2 s13 v14 s14 e14) mw12_56 ⟨Nat.le_of_ble_eq_true rfl, Nat.le_of_ble_eq_true rfl⟩ (dMr (by decide)) rfl rfl rfl (Nat.le_of_ble_eq_true rfl) hl.1 ⟨Nat.le_of_ble_eq_true rfl, Nat.le_of_ble_eq_true rfl⟩ dX12_init_169 (fun H locs hPS => ?_)
  refine r_istore_n cx (lv' := [(1, .int v14), (0, .ref (ad 0 0))]) dX12_init_172 hl (by decide) rfl (fun ls hl => ?_)
  have hl := lv_sub hl (l' := [(0, .ref (ad 0 0))]) [1] rfl
  refine r_aload_n cx dX12_init_173 (lv_at hl 0 rfl) ?_
  refine r_iconst cx 2 dX12_init_174 (by decide) ?_
  obtain ⟨s15, e15, hF⟩ := bnd_some hF
  refine r_callVv cx hPS (As := [.int 2]) (w12_passAll l Γ ad A 2 s14 s15 e15) mw12_49 ⟨Nat.le_of_ble_eq_true rfl, Nat.le_of_ble_eq_true rfl⟩ (dMr (by decide)) rfl rfl rfl (Nat.le_of_ble_eq_true rfl) hl.1 ⟨Nat.le_of_ble_eq_true rfl, Nat.le_of_ble_eq_true rfl⟩ dX12_init_175 (fun H locs hPS => ?_)
  refine r_aload_n cx dX12_init_178 (lv_at hl 0 rfl) ?_
  refine r_iconst cx 1 dX12_init_179 (by decide) ?_
  refine r_iconst cx 0 dX12_init_180 (by decide) ?_
  obtain ⟨v16, s16, e16, hF⟩ := bns_some hF
  refine r_callVi cx hPS (As := [.int 1, .int 0]) (w12_show l Γ ad A 1 0 s15 v16 s16 e16) mw12_52 ⟨Nat.le_of_ble_eq_true rfl, Nat.le_of_ble_eq_true rfl⟩ (dMr (by decide)) rfl rfl rfl (Nat.le_of_ble_eq_true rfl) hl.1 ⟨Nat.le_of_ble_eq_true rfl, Nat.le_of_ble_eq_true rfl⟩ dX12_init_181 (fun H locs hPS => ?_)
  refine r_istore_n cx (lv' := [(1, .int v16), (0, .ref (ad 0 0))]) dX12_init_184 hl (by decide) rfl (fun ls hl => ?_)
  have hl := lv_sub hl (l' := [(0, .ref (ad 0 0))]) [1] rfl
  refine r_aload_n cx dX12_init_185 (lv_at hl 0 rfl) ?_
  refine r_iconst cx 1 dX12_init_186 (by decide) ?_
  refine r_iconst cx 3 dX12_init_187 (by decide) ?_
  obtain ⟨v17, s17, e17, hF⟩ := bns_some hF
  refine r_callVi cx hPS (As := [.int 1, .int 3]) (w12_take l Γ ad A 1 3 s16 v17 s17 e17) mw12_56 ⟨Nat.le_of_ble_eq_true rfl, Nat.le_of_ble_eq_true rfl⟩ (dMr (by decide)) rfl rfl rfl (Nat.le_of_ble_eq_true rfl) hl.1 ⟨Nat.le_of_ble_eq_true rfl, Nat.le_of_ble_eq_true rfl⟩ dX12_init_188 (fun H locs hPS => ?_)
  refine r_istore_n cx (lv' := [(1, .int v17), (0, .ref (ad 0 0))]) dX12_init_191 hl (by decide) rfl (fun ls hl => ?_)
  have hl := lv_sub hl (l' := [(0, .ref (ad 0 0))]) [1] rfl
  refine r_aload_n cx dX12_init_192 (lv_at hl 0 rfl) ?_
  refine r_iconst cx 0 dX12_init_193 (by decide) ?_
  obtain ⟨v18, s18, e18, hF⟩ := bns_some hF
  refine r_callVi cx hPS (As := [.int 0]) (w12_lose l Γ ad A 0 s17 v18 s18 e18) mw12_59 ⟨Nat.le_of_ble_eq_true rfl, Nat.le_of_ble_eq_true rfl⟩ (dMr (by decide)) rfl rfl rfl (Nat.le_of_ble_eq_true rfl) hl.1 ⟨Nat.le_of_ble_eq_true rfl, Nat.le_of_ble_eq_true rfl⟩ dX12_init_194 (fun H locs hPS => ?_)
  refine r_istore_n cx (lv' := [(1, .int v18), (0, .ref (ad 0 0))]) dX12_init_197 hl (by decide) rfl (fun ls hl => ?_)
  have hl := lv_sub hl (l' := [(0, .ref (ad 0 0))]) [1] rfl
  cases hF
  exact W.vret hx hb hr (fun t ht hW => ⟨⟨(), rfl, trivial, ad, e00, by rw [ht]; exact hPS.1, cx.hA⟩, hPS.2.F ht⟩) hPS.2.2.2 dX12_init_198
