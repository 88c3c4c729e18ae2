/-! printed: the bureau's constructor -/
theorem mw11_47 : MWv RX11 47 yX6_fill cX6_fill 3 none 1 := ⟨gw_t (tin2 (List.mem_of_getElem? (i := 127) rfl)) rfl, gw_t (tin2 (List.mem_of_getElem? (i := 128) rfl)) rfl, gw_t (tin2 (List.mem_of_getElem? (i := 129) rfl)) rfl, gw_t (tin1 (List.mem_of_getElem? (i := 11) rfl)) rfl, gw_t (tin2 (List.mem_of_getElem? (i := 130) rfl)) rfl, by decide, by decide, by decide +kernel⟩
def MNb (l : Launch) (Γ : Wc) (fr lo mc ms h0 sz : Nat) (σ0 : Sig) : Prop :=
  Met l yX11_init (Wsd yX11_init cX11_init 1 none) { frames := fr, cells := mc, slots := ms, locals := lo } (va_Pc [.ref h0] (fun U => U.heap.size = sz ∧ va_P Γ.1 vwCl [(h0, .inr (11, [.null, .null, .null, .null, .null, .null, .int 0]))] U.heap ∧ va_K Γ.1 vwCl (tyK Γ.2.1) U ∧ va_D (fun _ => True) [(h0, .inr (11, [.null, .null, .null, .null, .null, .null, .int 0]))] ∧ NW U ∧ va_AO RX4 U ∧ ZH Γ (va_A [(h0, .inr (11, [.null, .null, .null, .null, .null, .null, .int 0]))] sz) U U.heap ∧ ZV Γ U)) (va_Qv (fun _ : Unit => True) (fun _ t => ∃ ad : Nat → Nat → Nat, ad 0 0 = h0 ∧ PX SX Γ ad σ0 t.heap ∧ AX SX ad (va_A [(h0, .inr (11, [.null, .null, .null, .null, .null, .null, .int 0]))] sz)) (va_A [(h0, .inr (11, [.null, .null, .null, .null, .null, .null, .int 0]))] sz)) mc ms (va_A [(h0, .inr (11, [.null, .null, .null, .null, .null, .null, .int 0]))] sz)
set_option maxHeartbeats 8000000 in
set_option maxRecDepth 100000 in
theorem wn11 (l : Launch) (Γ : Wc) (h0 sz : Nat) (σ0 : Sig) (hF : fX = some σ0) : MNb l Γ 9 193 326 6740 h0 sz σ0 := by
  refine Met.ofW (cc := cX11_init) (maxL := 1) (ret := none) (by decide) rfl ?_
  intro p e s m args below meth c s₁ B hml hv
  obtain ⟨rfl, hsz, hP, hK, hD0, hNW, hAO, hZ, hV⟩ := hv
  have hx := B.exec
  have hb := B.bytes
  have hr := B.returns
  have hts := atoms_spec (ws := Wsd yX11_init cX11_init 1 none) B.pre
  have htg : ∀ w ∈ gw, w.before _ s = true := fun w h => hts w (List.mem_cons_of_mem _ h)
  have hown : s.vm.findClass RX11 = some m.cls := findClass_of_methodNamed B.named
  have hin : meth.name = "<init>" := (name_of_methodNamed B.named B.method).1
  have hnl := B.notSynchronized
  subst hsz
  have hD := hD0.self (sz := s.heap.size)
  generalize hAe : va_A [(h0, .inr (11, [.null, .null, .null, .null, .null, .null, .int 0]))] s.heap.size = A at hD hZ ⊢
  have hA : ∀ q : Nat, s.heap.size ≤ q → A q := fun q h => by rw [← hAe]; exact Or.inr h
  have hS : va_S A s.heap s.heap [] := va_S.rf
  have hP : va_P Γ.1 vwCl [(h0, .inr (11, [.null, .null, .null, .null, .null, .null, .int 0]))] s.heap := hP
  have hl := lv_entry ([.ref h0]) (n := 1) (Nat.le_of_ble_eq_true rfl)
  rw [lg_entry_eq]
  generalize (lg_sl ([.ref h0]) ++ List.replicate (1 - (lg_sl ([.ref h0])).length) Slot.unset).toArray = ls at hl ⊢
  have hl : lv_has ls 1 [(0, .ref h0)] := hl
  refine lv_aload_n hx hb dX11_init_0 rfl (lv_at hl 0 rfl) ?_
  refine W.objInit hx hb hown (htg (.methodLink RX11 3 objectInit) (gw_t (tin1 (List.mem_of_getElem? (i := 36) rfl)) rfl)) (htg (.instanceMethod objectInit) (gw_t (tin1 (List.mem_of_getElem? (i := 37) rfl)) rfl)) (htg (.code objectInit ⟨#[0xb1]⟩ 1 none) (gw_t (tin1 (List.mem_of_getElem? (i := 38) rfl)) rfl)) rfl (by rw [hml]; exact hl.1) rfl dX11_init_1 (Nat.le_of_ble_eq_true rfl) (Nat.le_of_ble_eq_true rfl) ?_
  refine W.eq (g2 := F0 m 4 ls []) rfl ?_
  refine lv_aload_n hx hb dX11_init_4 rfl (lv_at hl 0 rfl) ?_
  refine va_new (ci := 4) (fs := [.null, .null, .null, .null, .null, .null, .int 0]) (C := RX4) (T := TX4) (N := 7) hx hb htg inX4 tyX4 tyX4_ok hown (htg (.classLink RX11 9 RX4) (gw_t (tin1 (List.mem_of_getElem? (i := 39) rfl)) rfl)) (htg (.instantiable RX4 7) (gw_t (tin1 (List.mem_of_getElem? (i := 40) rfl)) rfl)) (htg (.initialized RX4) (gw_t (tin1 (List.mem_of_getElem? (i := 2) rfl)) rfl)) hK hP hD hS hA rfl (fun j hj => by rcases (show j = 0 ∨ j = 1 ∨ j = 2 ∨ j = 3 ∨ j = 4 ∨ j = 5 ∨ j = 6 by omega) with rfl | rfl | rfl | rfl | rfl | rfl | rfl <;> rfl) (Nat.le_of_ble_eq_true rfl) (Nat.le_of_ble_eq_true rfl) dX11_init_5 (fun p8 H hP hD hS => ?_)
  refine lv_dup hx hb dX11_init_8 rfl ?_
  have hPc := ct_last hP
  have hDc := cd_last hD
  have hFc := cf_last hD hS hA
  refine va_callv (va_runIN (As := []) (rest := [.ref p8, .ref h0]) ⟨hx, hb, hml, hown, htg⟩ (wn4 l Γ.1 Γ.2.1 p8 H.size) ⟨va_cnB 0 htg (gw_cons (gw_t (tin1 (List.mem_of_getElem? (i := 43) rfl)) rfl)) rfl rfl rfl (hNW (RX11, 11, yX4_init) (by decide +kernel)) (htg (.initialized RX4) (gw_t (tin1 (List.mem_of_getElem? (i := 2) rfl)) rfl)) (by decide +kernel) ⟨Nat.le_of_ble_eq_true rfl, Nat.le_of_ble_eq_true rfl⟩, rfl, htg (.instanceMethod yX4_init) (gw_t (tin1 (List.mem_of_getElem? (i := 42) rfl)) rfl)⟩ ⟨fun a U g mk q => by obtain ⟨q0, q1, qP, qK, qD, qN⟩ := q; exact ⟨q0, q1, qP, va_K.moved (u := U) (U := U.calling g mk a) (Vm.Alike.refl U.vm) qK, qD, NW.same (s := U) (U := U.calling g mk a) rfl qN⟩, fun U hU hW => ⟨rfl, by rw [hU], by rw [hU]; exact hPc, va_K.moved hW.alike hK, hDc.weaken (fun _ _ _ _ => trivial), hNW.warm hW⟩⟩ rfl rfl hl.1 rfl (lv_room (Nat.le_of_ble_eq_true rfl)) dX11_init_9 ⟨Nat.le_of_ble_eq_true rfl, Nat.le_of_ble_eq_true rfl⟩) hS (fun q _ h => hFc q h) hFc (fun u t H1 locs ht hvm hw hB hz1 hk1 hS => ?_)
  obtain ⟨w1, ⟨a8, rfl, rfl⟩, hP1, hD1⟩ := hB
  rw [ht] at hP1
  obtain ⟨hP, hD⟩ := ct_join hP hD hk1 hFc hP1 hD1
  refine va_putF (D := Γ.1) (ci := 11) (v := .ref (a8 0)) (ty := .object RX4) (C := RX11) (T := TX11) (N := 7) hx hb htg inX11 tyX11 tyX11_ok nmX11 hown hK hP hD hS 0 rfl rfl 0 (by decide) (htg _ (gw_t (tin4 (List.mem_of_getElem? (i := 55) rfl)) rfl)) (fun _ h9 => h9) rfl hin rfl (by decide +kernel) rfl rfl (Nat.le_of_ble_eq_true rfl) dX11_init_12 (fun H locs hP hD hS => ?_)
  have hP : va_P Γ.1 vwCl ([(h0, .inr (11, [.ref (a8 0), .null, .null, .null, .null, .null, .int 0]))] ++ gl Γ.2.1 a8) H := hP
  have hD : va_D A ([(h0, .inr (11, [.ref (a8 0), .null, .null, .null, .null, .null, .int 0]))] ++ gl Γ.2.1 a8) := hD
  refine lv_aload_n hx hb dX11_init_15 rfl (lv_at hl 0 rfl) ?_
  refine va_new (ci := 4) (fs := [.null, .null, .null, .null, .null, .null, .int 0]) (C := RX4) (T := TX4) (N := 7) hx hb htg inX4 tyX4 tyX4_ok hown (htg (.classLink RX11 9 RX4) (gw_t (tin1 (List.mem_of_getElem? (i := 39) rfl)) rfl)) (htg (.instantiable RX4 7) (gw_t (tin1 (List.mem_of_getElem? (i := 40) rfl)) rfl)) (htg (.initialized RX4) (gw_t (tin1 (List.mem_of_getElem? (i := 2) rfl)) rfl)) hK hP hD hS hA rfl (fun j hj => by rcases (show j = 0 ∨ j = 1 ∨ j = 2 ∨ j = 3 ∨ j = 4 ∨ j = 5 ∨ j = 6 by omega) with rfl | rfl | rfl | rfl | rfl | rfl | rfl <;> rfl) (Nat.le_of_ble_eq_true rfl) (Nat.le_of_ble_eq_true rfl) dX11_init_16 (fun p9 H hP hD hS => ?_)
  refine lv_dup hx hb dX11_init_19 rfl ?_
  have hPc := ct_last hP
  have hDc := cd_last hD
  have hFc := cf_last hD hS hA
  refine va_callv (va_runIN (As := []) (rest := [.ref p9, .ref h0]) ⟨hx, hb, hml, hown, htg⟩ (wn4 l Γ.1 Γ.2.1 p9 H.size) ⟨va_cnB 0 htg (gw_cons (gw_t (tin1 (List.mem_of_getElem? (i := 43) rfl)) rfl)) rfl rfl rfl (hNW (RX11, 11, yX4_init) (by decide +kernel)) (htg (.initialized RX4) (gw_t (tin1 (List.mem_of_getElem? (i := 2) rfl)) rfl)) (by decide +kernel) ⟨Nat.le_of_ble_eq_true rfl, Nat.le_of_ble_eq_true rfl⟩, rfl, htg (.instanceMethod yX4_init) (gw_t (tin1 (List.mem_of_getElem? (i := 42) rfl)) rfl)⟩ ⟨fun a U g mk q => by obtain ⟨q0, q1, qP, qK, qD, qN⟩ := q; exact ⟨q0, q1, qP, va_K.moved (u := U) (U := U.calling g mk a) (Vm.Alike.refl U.vm) qK, qD, NW.same (s := U) (U := U.calling g mk a) rfl qN⟩, fun U hU hW => ⟨rfl, by rw [hU], by rw [hU]; exact hPc, va_K.moved hW.alike hK, hDc.weaken (fun _ _ _ _ => trivial), hNW.warm hW⟩⟩ rfl rfl hl.1 rfl (lv_room (Nat.le_of_ble_eq_true rfl)) dX11_init_20 ⟨Nat.le_of_ble_eq_true rfl, Nat.le_of_ble_eq_true rfl⟩) hS (fun q _ h => hFc q h) hFc (fun u t H1 locs ht hvm hw hB hz1 hk1 hS => ?_)
  obtain ⟨w1, ⟨a9, rfl, rfl⟩, hP1, hD1⟩ := hB
  rw [ht] at hP1
  obtain ⟨hP, hD⟩ := ct_join hP hD hk1 hFc hP1 hD1
  refine va_putF (D := Γ.1) (ci := 11) (v := .ref (a9 0)) (ty := .object RX4) (C := RX11) (T := TX11) (N := 7) hx hb htg inX11 tyX11 tyX11_ok nmX11 hown hK hP hD hS 0 rfl rfl 1 (by decide) (htg _ (gw_t (tin4 (List.mem_of_getElem? (i := 56) rfl)) rfl)) (fun _ h9 => h9) rfl hin rfl (by decide +kernel) rfl rfl (Nat.le_of_ble_eq_true rfl) dX11_init_23 (fun H locs hP hD hS => ?_)
  have hP : va_P Γ.1 vwCl ([(h0, .inr (11, [.ref (a8 0), .ref (a9 0), .null, .null, .null, .null, .int 0]))] ++ gl Γ.2.1 a8 ++ gl Γ.2.1 a9) H := hP
  have hD : va_D A ([(h0, .inr (11, [.ref (a8 0), .ref (a9 0), .null, .null, .null, .null, .int 0]))] ++ gl Γ.2.1 a8 ++ gl Γ.2.1 a9) := hD
  refine lv_aload_n hx hb dX11_init_26 rfl (lv_at hl 0 rfl) ?_
  refine va_new (ci := 5) (fs := [.null, .int 0, .int 0]) (C := RX5) (T := TX5) (N := 3) hx hb htg inX5 tyX5 tyX5_ok hown (htg (.classLink RX11 19 RX5) (gw_t (tin2 (List.mem_of_getElem? (i := 44) rfl)) rfl)) (htg (.instantiable RX5 3) (gw_t (tin2 (List.mem_of_getElem? (i := 45) rfl)) rfl)) (htg (.initialized RX5) (gw_t (tin1 (List.mem_of_getElem? (i := 9) rfl)) rfl)) hK hP hD hS hA rfl (fun j hj => by rcases (show j = 0 ∨ j = 1 ∨ j = 2 by omega) with rfl | rfl | rfl <;> rfl) (Nat.le_of_ble_eq_true rfl) (Nat.le_of_ble_eq_true rfl) dX11_init_27 (fun q5 H hP hD hS => ?_)
  refine lv_dup hx hb dX11_init_30 rfl ?_
  have hPc := ct_last hP
  have hDc := cd_last hD
  have hFc := cf_last hD hS hA
  refine va_callv (va_runI (As := []) (rest := [.ref q5, .ref h0]) ⟨hx, hb, hml, hown, htg⟩ (wn5 l Γ.1 Γ.2.1 q5 H.size) (cwI 0 htg (gw_cons (gw_t (tin2 (List.mem_of_getElem? (i := 48) rfl)) rfl)) rfl rfl rfl (htg (.initialized RX5) (gw_t (tin1 (List.mem_of_getElem? (i := 9) rfl)) rfl)) (htg (.methodLink RX11 21 yX5_init) (gw_t (tin2 (List.mem_of_getElem? (i := 46) rfl)) rfl)) (htg (.instanceMethod yX5_init) (gw_t (tin2 (List.mem_of_getElem? (i := 47) rfl)) rfl)) rfl (by decide +kernel) ⟨Nat.le_of_ble_eq_true rfl, Nat.le_of_ble_eq_true rfl⟩) ⟨fun a U g mk q => by obtain ⟨q0, q1, qP, qK, qD, qN, qO⟩ := q; exact ⟨q0, q1, qP, va_K.moved (u := U) (U := U.calling g mk a) (Vm.Alike.refl U.vm) qK, qD, NW.same (s := U) (U := U.calling g mk a) rfl qN, va_AO.moved (u := U) (U := U.calling g mk a) (Vm.Alike.refl U.vm) qO⟩, fun U hU hW => ⟨rfl, by rw [hU], by rw [hU]; exact hPc, va_K.moved hW.alike hK, hDc.weaken (fun _ _ _ _ => trivial), hNW.warm hW, va_AO.moved hW.alike hAO⟩⟩ rfl rfl hl.1 rfl (lv_room (Nat.le_of_ble_eq_true rfl)) dX11_init_31 ⟨Nat.le_of_ble_eq_true rfl, Nat.le_of_ble_eq_true rfl⟩) hS (fun q _ h => hFc q h) hFc (fun u t H1 locs ht hvm hw hB hz1 hk1 hS => ?_)
  obtain ⟨w1, ⟨r, aa, rfl⟩, hP1, hD1⟩ := hB
  rw [ht] at hP1
  obtain ⟨hP, hD⟩ := ct_join hP hD hk1 hFc hP1 hD1
  refine va_putF (D := Γ.1) (ci := 11) (v := .ref q5) (ty := .object RX5) (C := RX11) (T := TX11) (N := 7) hx hb htg inX11 tyX11 tyX11_ok nmX11 hown hK hP hD hS 0 rfl rfl 2 (by decide) (htg _ (gw_t (tin4 (List.mem_of_getElem? (i := 57) rfl)) rfl)) (fun _ h9 => h9) rfl hin rfl (by decide +kernel) rfl rfl (Nat.le_of_ble_eq_true rfl) dX11_init_34 (fun H locs hP hD hS => ?_)
  have hP : va_P Γ.1 vwCl ([(h0, .inr (11, [.ref (a8 0), .ref (a9 0), .ref q5, .null, .null, .null, .int 0]))] ++ gl Γ.2.1 a8 ++ gl Γ.2.1 a9 ++ ([(q5, .inr (5, [.ref r, .int 0, .int 0])), (r, .inl (Γ.2.1 3, 8, .inr (.inr (.inr (.inr (hf_ 8 aa))))))] ++ hX Γ.2.1 8 aa)) H := hP
  have hD : va_D A ([(h0, .inr (11, [.ref (a8 0), .ref (a9 0), .ref q5, .null, .null, .null, .int 0]))] ++ gl Γ.2.1 a8 ++ gl Γ.2.1 a9 ++ ([(q5, .inr (5, [.ref r, .int 0, .int 0])), (r, .inl (Γ.2.1 3, 8, .inr (.inr (.inr (.inr (hf_ 8 aa))))))] ++ hX Γ.2.1 8 aa)) := hD
  refine lv_aload_n hx hb dX11_init_37 rfl (lv_at hl 0 rfl) ?_
  refine va_new (ci := 9) (fs := [.null, .null, .int 0, .int 0]) (C := RX9) (T := TX9) (N := 4) hx hb htg inX9 tyX9 tyX9_ok hown (htg (.classLink RX11 26 RX9) (gw_t (tin2 (List.mem_of_getElem? (i := 64) rfl)) rfl)) (htg (.instantiable RX9 4) (gw_t (tin2 (List.mem_of_getElem? (i := 65) rfl)) rfl)) (htg (.initialized RX9) (gw_t (tin1 (List.mem_of_getElem? (i := 10) rfl)) rfl)) hK hP hD hS hA rfl (fun j hj => by rcases (show j = 0 ∨ j = 1 ∨ j = 2 ∨ j = 3 by omega) with rfl | rfl | rfl | rfl <;> rfl) (Nat.le_of_ble_eq_true rfl) (Nat.le_of_ble_eq_true rfl) dX11_init_38 (fun q9 H hP hD hS => ?_)
  refine lv_dup hx hb dX11_init_41 rfl ?_
  have hPc := ct_last hP
  have hDc := cd_last hD
  have hFc := cf_last hD hS hA
  refine va_callv (va_runIN (As := []) (rest := [.ref q9, .ref h0]) ⟨hx, hb, hml, hown, htg⟩ (wn9 l Γ.1 Γ.2.1 q9 H.size) ⟨va_cnB 0 htg (gw_cons (gw_t (tin2 (List.mem_of_getElem? (i := 68) rfl)) rfl)) rfl rfl rfl (hNW (RX11, 28, yX9_init) (by decide +kernel)) (htg (.initialized RX9) (gw_t (tin1 (List.mem_of_getElem? (i := 10) rfl)) rfl)) (by decide +kernel) ⟨Nat.le_of_ble_eq_true rfl, Nat.le_of_ble_eq_true rfl⟩, rfl, htg (.instanceMethod yX9_init) (gw_t (tin2 (List.mem_of_getElem? (i := 67) rfl)) rfl)⟩ ⟨fun a U g mk q => by obtain ⟨q0, q1, qP, qK, qD, qN⟩ := q; exact ⟨q0, q1, qP, va_K.moved (u := U) (U := U.calling g mk a) (Vm.Alike.refl U.vm) qK, qD, NW.same (s := U) (U := U.calling g mk a) rfl qN⟩, fun U hU hW => ⟨rfl, by rw [hU], by rw [hU]; exact hPc, va_K.moved hW.alike hK, hDc.weaken (fun _ _ _ _ => trivial), hNW.warm hW⟩⟩ rfl rfl hl.1 rfl (lv_room (Nat.le_of_ble_eq_true rfl)) dX11_init_42 ⟨Nat.le_of_ble_eq_true rfl, Nat.le_of_ble_eq_true rfl⟩) hS (fun q _ h => hFc q h) hFc (fun u t H1 locs ht hvm hw hB hz1 hk1 hS => ?_)
  obtain ⟨w1, ⟨a10, q6, r6, rfl⟩, hP1, hD1⟩ := hB
  rw [ht] at hP1
  obtain ⟨hP, hD⟩ := ct_join hP hD hk1 hFc hP1 hD1
  refine va_putF (D := Γ.1) (ci := 11) (v := .ref q9) (ty := .object RX9) (C := RX11) (T := TX11) (N := 7) hx hb htg inX11 tyX11 tyX11_ok nmX11 hown hK hP hD hS 0 rfl rfl 3 (by decide) (htg _ (gw_t (tin4 (List.mem_of_getElem? (i := 58) rfl)) rfl)) (fun _ h9 => h9) rfl hin rfl (by decide +kernel) rfl rfl (Nat.le_of_ble_eq_true rfl) dX11_init_45 (fun H locs hP hD hS => ?_)
  have hP : va_P Γ.1 vwCl ([(h0, .inr (11, [.ref (a8 0), .ref (a9 0), .ref q5, .ref q9, .null, .null, .int 0]))] ++ gl Γ.2.1 a8 ++ gl Γ.2.1 a9 ++ ([(q5, .inr (5, [.ref r, .int 0, .int 0])), (r, .inl (Γ.2.1 3, 8, .inr (.inr (.inr (.inr (hf_ 8 aa))))))] ++ hX Γ.2.1 8 aa) ++ ([(q9, .inr (9, [.ref (a10 0), .ref q6, .int 0, .int (-1)]))] ++ gl Γ.2.1 a10 ++ [(q6, .inr (6, [.ref r6, .int 0, .int 0, .int 0, .int 0])), (r6, .inl (Γ.2.1 2, 500, .inl z_))])) H := hP
  have hD : va_D A ([(h0, .inr (11, [.ref (a8 0), .ref (a9 0), .ref q5, .ref q9, .null, .null, .int 0]))] ++ gl Γ.2.1 a8 ++ gl Γ.2.1 a9 ++ ([(q5, .inr (5, [.ref r, .int 0, .int 0])), (r, .inl (Γ.2.1 3, 8, .inr (.inr (.inr (.inr (hf_ 8 aa))))))] ++ hX Γ.2.1 8 aa) ++ ([(q9, .inr (9, [.ref (a10 0), .ref q6, .int 0, .int (-1)]))] ++ gl Γ.2.1 a10 ++ [(q6, .inr (6, [.ref r6, .int 0, .int 0, .int 0, .int 0])), (r6, .inl (Γ.2.1 2, 500, .inl z_))])) := hD
  refine lv_aload_n hx hb dX11_init_48 rfl (lv_at hl 0 rfl) ?_
  refine lv_aload_n hx hb dX11_init_49 rfl (lv_at hl 0 rfl) ?_
  refine va_get (D := Γ.1) (ci := 11) (v := .ref q9) (C := RX11) (T := TX11) (N := 7) hx hb htg inX11 hown hK hP 0 rfl rfl 3 (by decide) (htg _ (gw_t (tin4 (List.mem_of_getElem? (i := 58) rfl)) rfl)) (fun _ h9 => h9) rfl dX11_init_50 ?_
  refine va_get (D := Γ.1) (ci := 9) (v := .ref q6) (C := RX9) (T := TX9) (N := 4) hx hb htg inX9 hown hK hP ([(h0, Sum.inr (11, [Value.ref (a8 0), Value.ref (a9 0), Value.ref q5, Value.ref q9, Value.null, Value.null, Value.int 0]))] ++ gl Γ.2.1 a8 ++ gl Γ.2.1 a9 ++ ([(q5, Sum.inr (5, [Value.ref r, Value.int 0, Value.int 0])), (r, Sum.inl (Γ.2.1 3, 8, Sum.inr (Sum.inr (Sum.inr (Sum.inr (hf_ 8 aa))))))] ++ hX Γ.2.1 8 aa) : va_W).length (by rw [List.getElem?_append_right (Nat.le_refl _), Nat.sub_self]; rfl) rfl 1 (by decide) (htg _ (gw_t (tin2 (List.mem_of_getElem? (i := 101) rfl)) rfl)) (fun _ h9 => h9) rfl dX11_init_53 ?_
  refine va_putF (D := Γ.1) (ci := 11) (v := .ref q6) (ty := .object RX6) (C := RX11) (T := TX11) (N := 7) hx hb htg inX11 tyX11 tyX11_ok nmX11 hown hK hP hD hS 0 rfl rfl 4 (by decide) (htg _ (gw_t (tin4 (List.mem_of_getElem? (i := 59) rfl)) rfl)) (fun _ h9 => h9) rfl hin rfl (by decide +kernel) rfl rfl (Nat.le_of_ble_eq_true rfl) dX11_init_56 (fun H locs hP hD hS => ?_)
  have hP : va_P Γ.1 vwCl ([(h0, .inr (11, [.ref (a8 0), .ref (a9 0), .ref q5, .ref q9, .ref q6, .null, .int 0]))] ++ gl Γ.2.1 a8 ++ gl Γ.2.1 a9 ++ ([(q5, .inr (5, [.ref r, .int 0, .int 0])), (r, .inl (Γ.2.1 3, 8, .inr (.inr (.inr (.inr (hf_ 8 aa))))))] ++ hX Γ.2.1 8 aa) ++ ([(q9, .inr (9, [.ref (a10 0), .ref q6, .int 0, .int (-1)]))] ++ gl Γ.2.1 a10 ++ [(q6, .inr (6, [.ref r6, .int 0, .int 0, .int 0, .int 0])), (r6, .inl (Γ.2.1 2, 500, .inl z_))])) H := hP
  have hD : va_D A ([(h0, .inr (11, [.ref (a8 0), .ref (a9 0), .ref q5, .ref q9, .ref q6, .null, .int 0]))] ++ gl Γ.2.1 a8 ++ gl Γ.2.1 a9 ++ ([(q5, .inr (5, [.ref r, .int 0, .int 0])), (r, .inl (Γ.2.1 3, 8, .inr (.inr (.inr (.inr (hf_ 8 aa))))))] ++ hX Γ.2.1 8 aa) ++ ([(q9, .inr (9, [.ref (a10 0), .ref q6, .int 0, .int (-1)]))] ++ gl Γ.2.1 a10 ++ [(q6, .inr (6, [.ref r6, .int 0, .int 0, .int 0, .int 0])), (r6, .inl (Γ.2.1 2, 500, .inl z_))])) := hD
  refine lv_aload_n hx hb dX11_init_59 rfl (lv_at hl 0 rfl) ?_
  refine va_new (ci := 8) (fs := [.null, .int 0]) (C := RX8) (T := TX8) (N := 2) hx hb htg inX8 tyX8 tyX8_ok hown (htg (.classLink RX11 38 RX8) (gw_t (tin2 (List.mem_of_getElem? (i := 114) rfl)) rfl)) (htg (.instantiable RX8 2) (gw_t (tin2 (List.mem_of_getElem? (i := 115) rfl)) rfl)) (htg (.initialized RX8) (gw_t (tin1 (List.mem_of_getElem? (i := 12) rfl)) rfl)) hK hP hD hS hA rfl (fun j hj => by rcases (show j = 0 ∨ j = 1 by omega) with rfl | rfl <;> rfl) (Nat.le_of_ble_eq_true rfl) (Nat.le_of_ble_eq_true rfl) dX11_init_60 (fun q8 H hP hD hS => ?_)
  refine lv_dup hx hb dX11_init_63 rfl ?_
  have hPc := ct_last hP
  have hDc := cd_last hD
  have hFc := cf_last hD hS hA
  refine va_callv (va_runIN (As := []) (rest := [.ref q8, .ref h0]) ⟨hx, hb, hml, hown, htg⟩ (wn8 l Γ.1 Γ.2.1 q8 H.size) ⟨va_cnB 0 htg (gw_cons (gw_t (tin2 (List.mem_of_getElem? (i := 118) rfl)) rfl)) rfl rfl rfl (hNW (RX11, 40, yX8_init) (by decide +kernel)) (htg (.initialized RX8) (gw_t (tin1 (List.mem_of_getElem? (i := 12) rfl)) rfl)) (by decide +kernel) ⟨Nat.le_of_ble_eq_true rfl, Nat.le_of_ble_eq_true rfl⟩, rfl, htg (.instanceMethod yX8_init) (gw_t (tin2 (List.mem_of_getElem? (i := 117) rfl)) rfl)⟩ ⟨fun a U g mk q => by obtain ⟨q0, q1, qP, qK, qD⟩ := q; exact ⟨q0, q1, qP, va_K.moved (u := U) (U := U.calling g mk a) (Vm.Alike.refl U.vm) qK, qD⟩, fun U hU hW => ⟨rfl, by rw [hU], by rw [hU]; exact hPc, va_K.moved hW.alike hK, hDc.weaken (fun _ _ _ _ => trivial)⟩⟩ rfl rfl hl.1 rfl (lv_room (Nat.le_of_ble_eq_true rfl)) dX11_init_64 ⟨Nat.le_of_ble_eq_true rfl, Nat.le_of_ble_eq_true rfl⟩) hS (fun q _ h => hFc q h) hFc (fun u t H1 locs ht hvm hw hB hz1 hk1 hS => ?_)
  obtain ⟨w1, ⟨r8, rfl⟩, hP1, hD1⟩ := hB
  rw [ht] at hP1
  obtain ⟨hP, hD⟩ := ct_join hP hD hk1 hFc hP1 hD1
  refine va_putF (D := Γ.1) (ci := 11) (v := .ref q8) (ty := .object RX8) (C := RX11) (T := TX11) (N := 7) hx hb htg inX11 tyX11 tyX11_ok nmX11 hown hK hP hD hS 0 rfl rfl 5 (by decide) (htg _ (gw_t (tin4 (List.mem_of_getElem? (i := 60) rfl)) rfl)) (fun _ h9 => h9) rfl hin rfl (by decide +kernel) rfl rfl (Nat.le_of_ble_eq_true rfl) dX11_init_67 (fun H locs hP hD hS => ?_)
  have hP : va_P Γ.1 vwCl (bw Γ.2.1 h0 q5 r q9 q6 r6 q8 r8 a8 a9 a10 aa) H := hP
  have hD : va_D A (bw Γ.2.1 h0 q5 r q9 q6 r6 q8 r8 a8 a9 a10 aa) := hD
  have cx : CX SX Γ (bad h0 q5 r q9 q6 r6 q8 r8 a8 a9 a10 aa) A RX11 cX11_init 1 p s m _ c := ⟨hx, hb, hml, hown, htg, hK, mk_AX hD, hZ, hV⟩
  have hPS : PS SX Γ (bad h0 q5 r q9 q6 r6 q8 r8 a8 a9 a10 aa) A s σi H locs := ⟨mk_PX hP, hS⟩
  have e00 : bad h0 q5 r q9 q6 r6 q8 r8 a8 a9 a10 aa 0 0 = h0 := rfl
  generalize bad h0 q5 r q9 q6 r6 q8 r8 a8 a9 a10 aa = ad at cx hPS e00
  clear hP hD hS
  have hl : lv_has ls 1 [(0, .ref (ad 0 0))] := by rw [e00]; exact hl
  refine W.widen (k := 326) (n := 6740) (Nat.le_of_ble_eq_true rfl) (Nat.le_of_ble_eq_true rfl) ?_
  obtain ⟨s1, e1, hF⟩ := bnd_some hF
  obtain ⟨s2, e2, hF⟩ := bnd_some hF
  refine r_aload_n cx dX11_init_70 (lv_at hl 0 rfl) ?_
  refine gf11_37 cx hPS dX11_init_71 ?_
  refine r_ldc cx (k := 0) (by decide) (by decide) dX11_init_74 ?_
  refine r_callVv cx hPS (As := [.ref (Γ.2.2.1 0)]) (w6_fill l Γ ad A 0 (by decide) σi s1 e1) mw11_47 ⟨Nat.le_of_ble_eq_true rfl, Nat.le_of_ble_eq_true rfl⟩ (dXr (by decide)) rfl rfl rfl (Nat.le_of_ble_eq_true rfl) hl.1 ⟨Nat.le_of_ble_eq_true rfl, Nat.le_of_ble_eq_true rfl⟩ dX11_init_76 (fun H locs hPS => ?_)
  refine r_aload_n cx dX11_init_79 (lv_at hl 0 rfl) ?_
  refine gf11_29 cx hPS dX11_init_80 ?_
  refine r_callVv cx hPS (As := []) (w9_execute l Γ ad A s1 s2 e2) mw11_53 ⟨Nat.le_of_ble_eq_true rfl, Nat.le_of_ble_eq_true rfl⟩ (dXr (by decide)) rfl rfl rfl (Nat.le_of_ble_eq_true rfl) hl.1 ⟨Nat.le_of_ble_eq_true rfl, Nat.le_of_ble_eq_true rfl⟩ dX11_init_83 (fun H locs hPS => ?_)
  refine r_aload_n cx dX11_init_86 (lv_at hl 0 rfl) ?_
  refine gf11_37 cx hPS dX11_init_87 ?_
  refine r_iconst cx 0 dX11_init_90 (by decide) ?_
  refine pf11_56 cx hPS dX11_init_91 hF (fun s3 H locs hPS hF => ?_)
  refine r_aload_n cx dX11_init_94 (lv_at hl 0 rfl) ?_
  refine gf11_12 cx hPS dX11_init_95 ?_
  refine r_aload_n cx dX11_init_98 (lv_at hl 0 rfl) ?_
  refine gf11_29 cx hPS dX11_init_99 ?_
  refine gf11_60 cx hPS dX11_init_102 ?_
  refine r_callVv cx hPS (As := [.ref (ad (10 + 1) 0)]) (w4_copyFrom l Γ ad A 8 (by decide) 10 (by decide) s3 σ0 hF) mw11_61 ⟨Nat.le_of_ble_eq_true rfl, Nat.le_of_ble_eq_true rfl⟩ (dXg (by decide : 8 < 11) (by decide)) rfl rfl rfl (Nat.le_of_ble_eq_true rfl) hl.1 ⟨Nat.le_of_ble_eq_true rfl, Nat.le_of_ble_eq_true rfl⟩ dX11_init_105 (fun H locs hPS => ?_)
  exact W.vret hx hb hr (fun t ht hW => ⟨⟨(), rfl, trivial, ad, e00, by rw [ht]; exact hPS.1, cx.hA⟩, hPS.2.F ht⟩) hPS.2.2.2 dX11_init_108
