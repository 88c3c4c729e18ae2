/-! printed: Script's constructor -/
def PN9 (K : Nat → ClassId) (h0 : Nat) (w1 : va_W) : Prop := ∃ (a : Nat → Nat) (q r : Nat), w1 = [(h0, .inr (9, [.ref (a 0), .ref q, .int 0, .int (-1)]))] ++ gl K a ++ [(q, .inr (6, [.ref r, .int 0, .int 0, .int 0, .int 0])), (r, .inl (K 2, 500, .inl z_))]
set_option maxHeartbeats 4000000 in
set_option maxRecDepth 100000 in
theorem wn9 (l : Launch) (D : va_G) (K : Nat → ClassId) (h0 sz : Nat) : MNn l D K yX9_init cX9_init 1 3 54 31 1069 h0 [(h0, .inr (9, [.null, .null, .int 0, .int 0]))] sz (PN9 K h0) := by
  refine Met.ofW (cc := cX9_init) (maxL := 1) (ret := none) (by decide) rfl ?_
  intro p e s m args below meth c s₁ B hml hv
  obtain ⟨rfl, hsz, hP, hK, hD0, hNW⟩ := hv
  have hx := B.exec
  have hb := B.bytes
  have hr := B.returns
  have hts := atoms_spec (ws := Wsd yX9_init cX9_init 1 none) B.pre
  have htg : ∀ w ∈ gw, w.before _ s = true := fun w h => hts w (List.mem_cons_of_mem _ h)
  have hown : s.vm.findClass RX9 = some m.cls := findClass_of_methodNamed B.named
  have hin : meth.name = "<init>" := (name_of_methodNamed B.named B.method).1
  have hnl := B.notSynchronized
  subst hsz
  have hD := hD0.self (sz := s.heap.size)
  generalize hAe : va_A [(h0, .inr (9, [.null, .null, .int 0, .int 0]))] s.heap.size = A at hD ⊢
  have hA : ∀ q : Nat, s.heap.size ≤ q → A q := fun q h => by rw [← hAe]; exact Or.inr h
  have hS : va_S A s.heap s.heap [] := va_S.rf
  have hP : va_P D vwCl [(h0, .inr (9, [.null, .null, .int 0, .int 0]))] s.heap := hP
  have hl := lv_entry ([.ref h0]) (n := 1) (Nat.le_of_ble_eq_true rfl)
  rw [lg_entry_eq]
  generalize (lg_sl ([.ref h0]) ++ List.replicate (1 - (lg_sl ([.ref h0])).length) Slot.unset).toArray = ls at hl ⊢
  have hl : lv_has ls 1 [(0, .ref h0)] := hl
  refine lv_aload_n hx hb dX9_init_0 rfl (lv_at hl 0 rfl) ?_
  refine W.objInit hx hb hown (htg (.methodLink RX9 3 objectInit) (gw_t (tin2 (List.mem_of_getElem? (i := 69) rfl)) rfl)) (htg (.instanceMethod objectInit) (gw_t (tin1 (List.mem_of_getElem? (i := 37) rfl)) rfl)) (htg (.code objectInit ⟨#[0xb1]⟩ 1 none) (gw_t (tin1 (List.mem_of_getElem? (i := 38) rfl)) rfl)) rfl (by rw [hml]; exact hl.1) rfl dX9_init_1 (Nat.le_of_ble_eq_true rfl) (Nat.le_of_ble_eq_true rfl) ?_
  refine W.eq (g2 := F0 m 4 ls []) rfl ?_
  refine lv_aload_n hx hb dX9_init_4 rfl (lv_at hl 0 rfl) ?_
  refine va_new (ci := 4) (fs := [.null, .null, .null, .null, .null, .null, .int 0]) (C := RX4) (T := TX4) (N := 7) hx hb htg inX4 tyX4 tyX4_ok hown (htg (.classLink RX9 9 RX4) (gw_t (tin2 (List.mem_of_getElem? (i := 70) rfl)) rfl)) (htg (.instantiable RX4 7) (gw_t (tin1 (List.mem_of_getElem? (i := 40) rfl)) rfl)) (htg (.initialized RX4) (gw_t (tin1 (List.mem_of_getElem? (i := 2) rfl)) rfl)) hK hP hD hS hA rfl (fun j hj => by rcases (show j = 0 ∨ j = 1 ∨ j = 2 ∨ j = 3 ∨ j = 4 ∨ j = 5 ∨ j = 6 by omega) with rfl | rfl | rfl | rfl | rfl | rfl | rfl <;> rfl) (Nat.le_of_ble_eq_true rfl) (Nat.le_of_ble_eq_true rfl) dX9_init_5 (fun q4 H hP hD hS => ?_)
  refine lv_dup hx hb dX9_init_8 rfl ?_
  have hPc := ct_last hP
  have hDc := cd_last hD
  have hFc := cf_last hD hS hA
  refine va_callv (va_runIN (As := []) (rest := [.ref q4, .ref h0]) ⟨hx, hb, hml, hown, htg⟩ (wn4 l D K q4 H.size) ⟨va_cnB 0 htg (gw_cons (gw_t (tin1 (List.mem_of_getElem? (i := 43) rfl)) rfl)) rfl rfl rfl (hNW (RX9, 11, yX4_init) (by decide +kernel)) (htg (.initialized RX4) (gw_t (tin1 (List.mem_of_getElem? (i := 2) rfl)) rfl)) (by decide +kernel) ⟨Nat.le_of_ble_eq_true rfl, Nat.le_of_ble_eq_true rfl⟩, rfl, htg (.instanceMethod yX4_init) (gw_t (tin1 (List.mem_of_getElem? (i := 42) rfl)) rfl)⟩ ⟨fun a U g mk q => by obtain ⟨q0, q1, qP, qK, qD, qN⟩ := q; exact ⟨q0, q1, qP, va_K.moved (u := U) (U := U.calling g mk a) (Vm.Alike.refl U.vm) qK, qD, NW.same (s := U) (U := U.calling g mk a) rfl qN⟩, fun U hU hW => ⟨rfl, by rw [hU], by rw [hU]; exact hPc, va_K.moved hW.alike hK, hDc.weaken (fun _ _ _ _ => trivial), hNW.warm hW⟩⟩ rfl rfl hl.1 rfl (lv_room (Nat.le_of_ble_eq_true rfl)) dX9_init_9 ⟨Nat.le_of_ble_eq_true rfl, Nat.le_of_ble_eq_true rfl⟩) hS (fun q _ h => hFc q h) hFc (fun u t H1 locs ht hvm hw hB hz1 hk1 hS => ?_)
  obtain ⟨w1, ⟨a, rfl, rfl⟩, hP1, hD1⟩ := hB
  rw [ht] at hP1
  obtain ⟨hP, hD⟩ := ct_join hP hD hk1 hFc hP1 hD1
  refine va_putF (D := D) (ci := 9) (v := .ref (a 0)) (ty := .object RX4) (C := RX9) (T := TX9) (N := 4) hx hb htg inX9 tyX9 tyX9_ok nmX9 hown hK hP hD hS 0 rfl rfl 0 (by decide) (htg _ (gw_t (tin2 (List.mem_of_getElem? (i := 98) rfl)) rfl)) (fun _ h9 => h9) rfl hin rfl (by decide +kernel) rfl rfl (Nat.le_of_ble_eq_true rfl) dX9_init_12 (fun H locs hP hD hS => ?_)
  have hP : va_P D vwCl ([(h0, .inr (9, [.ref (a 0), .null, .int 0, .int 0]))] ++ gl K a) H := hP
  have hD : va_D A ([(h0, .inr (9, [.ref (a 0), .null, .int 0, .int 0]))] ++ gl K a) := hD
  refine lv_aload_n hx hb dX9_init_15 rfl (lv_at hl 0 rfl) ?_
  refine va_new (ci := 6) (fs := [.null, .int 0, .int 0, .int 0, .int 0]) (C := RX6) (T := TX6) (N := 5) hx hb htg inX6 tyX6 tyX6_ok hown (htg (.classLink RX9 18 RX6) (gw_t (tin2 (List.mem_of_getElem? (i := 72) rfl)) rfl)) (htg (.instantiable RX6 5) (gw_t (tin2 (List.mem_of_getElem? (i := 73) rfl)) rfl)) (htg (.initialized RX6) (gw_t (tin1 (List.mem_of_getElem? (i := 11) rfl)) rfl)) hK hP hD hS hA rfl (fun j hj => by rcases (show j = 0 ∨ j = 1 ∨ j = 2 ∨ j = 3 ∨ j = 4 by omega) with rfl | rfl | rfl | rfl | rfl <;> rfl) (Nat.le_of_ble_eq_true rfl) (Nat.le_of_ble_eq_true rfl) dX9_init_16 (fun q H hP hD hS => ?_)
  refine lv_dup hx hb dX9_init_19 rfl ?_
  have hPc := ct_last hP
  have hDc := cd_last hD
  have hFc := cf_last hD hS hA
  refine va_callv (va_runIN (As := []) (rest := [.ref q, .ref h0]) ⟨hx, hb, hml, hown, htg⟩ (wn6 l D K q H.size) ⟨va_cnB 0 htg (gw_cons (gw_t (tin2 (List.mem_of_getElem? (i := 76) rfl)) rfl)) rfl rfl rfl (hNW (RX9, 20, yX6_init) (by decide +kernel)) (htg (.initialized RX6) (gw_t (tin1 (List.mem_of_getElem? (i := 11) rfl)) rfl)) (by decide +kernel) ⟨Nat.le_of_ble_eq_true rfl, Nat.le_of_ble_eq_true rfl⟩, rfl, htg (.instanceMethod yX6_init) (gw_t (tin2 (List.mem_of_getElem? (i := 75) rfl)) rfl)⟩ ⟨fun a U g mk q => by obtain ⟨q0, q1, qP, qK, qD⟩ := q; exact ⟨q0, q1, qP, va_K.moved (u := U) (U := U.calling g mk a) (Vm.Alike.refl U.vm) qK, qD⟩, fun U hU hW => ⟨rfl, by rw [hU], by rw [hU]; exact hPc, va_K.moved hW.alike hK, hDc.weaken (fun _ _ _ _ => trivial)⟩⟩ rfl rfl hl.1 rfl (lv_room (Nat.le_of_ble_eq_true rfl)) dX9_init_20 ⟨Nat.le_of_ble_eq_true rfl, Nat.le_of_ble_eq_true rfl⟩) hS (fun q _ h => hFc q h) hFc (fun u t H1 locs ht hvm hw hB hz1 hk1 hS => ?_)
  obtain ⟨w1, ⟨r, rfl⟩, hP1, hD1⟩ := hB
  rw [ht] at hP1
  obtain ⟨hP, hD⟩ := ct_join hP hD hk1 hFc hP1 hD1
  refine va_putF (D := D) (ci := 9) (v := .ref q) (ty := .object RX6) (C := RX9) (T := TX9) (N := 4) hx hb htg inX9 tyX9 tyX9_ok nmX9 hown hK hP hD hS 0 rfl rfl 1 (by decide) (htg _ (gw_t (tin2 (List.mem_of_getElem? (i := 100) rfl)) rfl)) (fun _ h9 => h9) rfl hin rfl (by decide +kernel) rfl rfl (Nat.le_of_ble_eq_true rfl) dX9_init_23 (fun H locs hP hD hS => ?_)
  refine lv_aload_n hx hb dX9_init_26 rfl (lv_at hl 0 rfl) ?_
  refine lv_iconst (v := 0) hx hb dX9_init_27 (by decide) ?_
  refine va_put (D := D) (ci := 9) (v := .int 0) (ty := .int) (C := RX9) (T := TX9) (N := 4) hx hb htg inX9 tyX9 tyX9_ok nmX9 hown hK hP hD hS 0 rfl rfl 2 (by decide) (htg _ (gw_t (tin2 (List.mem_of_getElem? (i := 102) rfl)) rfl)) (fun _ h9 => h9) rfl (by decide +kernel) rfl rfl (Nat.le_of_ble_eq_true rfl) dX9_init_28 (fun H locs hP hD hS => ?_)
  refine lv_aload_n hx hb dX9_init_31 rfl (lv_at hl 0 rfl) ?_
  refine lv_iconst (v := -1) hx hb dX9_init_32 (by decide) ?_
  refine va_put (D := D) (ci := 9) (v := .int (-1)) (ty := .int) (C := RX9) (T := TX9) (N := 4) hx hb htg inX9 tyX9 tyX9_ok nmX9 hown hK hP hD hS 0 rfl rfl 3 (by decide) (htg _ (gw_t (tin2 (List.mem_of_getElem? (i := 104) rfl)) rfl)) (fun _ h9 => h9) rfl (by decide +kernel) rfl rfl (Nat.le_of_ble_eq_true rfl) dX9_init_33 (fun H locs hP hD hS => ?_)
  refine W.widen (k := 31) (n := 1069) (Nat.le_of_ble_eq_true rfl) (Nat.le_of_ble_eq_true rfl) ?_
  exact W.vret hx hb hr (fun t ht hW => ⟨⟨(), rfl, trivial, _, ⟨a, q, r, rfl⟩, by rw [ht]; exact hP, hD⟩, hS.F ht⟩) hS.2.2 dX9_init_36
