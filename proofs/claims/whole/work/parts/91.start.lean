/-! the law from its entry -/
theorem cA_long {D : va_G} {K : Nat → ClassId} {U : State} {cA : ClassId} (h : va_K D vwCl (tyK K ++ [(cA, .long)]) U) : cA = K 5 := by
  have h1 : U.vm.findClass _ = some (K 5) := (h.2 5 _ rfl).2
  have h2 : U.vm.findClass _ = some cA := (h.2 6 _ rfl).2
  have e := h1.symm.trans h2
  cases e
  rfl
theorem kp_ {H H' : Heap} {locs : List Loc} (hS : va_S (fun q => H.size ≤ q) H H' locs) : ∀ q : Nat, q < H.size → H'[q]? = H[q]? := fun q h => hS.2.1 q h (Nat.not_le.mpr h)
theorem nil_P {D : va_G} {H : Heap} : va_P D vwCl [] H := fun k q h => by simp at h
theorem nil_D {A : Nat → Prop} : va_D A [] := ⟨fun i j p q h => by simp at h, fun k q h => by simp at h⟩
set_option maxHeartbeats 8000000 in
set_option maxRecDepth 100000 in
theorem whole_start {p : Program} {e : Env} {s : State} {m : MethodId} {below : List Frame} {meth : Method} {c : Code} (l : Launch) (hflags : l.flags = flags0) {b L : Nat} {xs : Nat → Int32} (hL : L ≤ 3072) (C0 : lw_At p s m meth c b L xs) : W p l e room_1 s m #[Value.ref b] below meth c s.heap [] 0 0 (lw_Z below #[Value.ref b] s) (entryFrame m ([Value.ref b] : List Value).toArray 9) := by
  obtain ⟨hx, hb, hr, hml, hown, hts, hX, hbl, hlocks, hgv⟩ := id C0
  have hb : c.code = cL_law := hb
  have hown : s.vm.findClass RL = some m.cls := hown
  have hst : l.stackTraces = false := by
    unfold Launch.stackTraces
    rw [hflags]
    decide +kernel
  have htg : ∀ w ∈ gw, w.before #[Value.ref b] s = true := fun w h => hts w (List.mem_filter.mp h).1
  obtain ⟨Γ, hK, hZ, hV, hNC, hNW, hAO, hAOA⟩ := given_ok hts hgv
  obtain ⟨σ0, τ0, eX, eM, hR0⟩ := start_ok
  have hA0 : ∀ q : Nat, s.heap.size ≤ q → (fun q : Nat => s.heap.size ≤ q) q := fun _ h => h
  have hS0 : va_S (fun q : Nat => s.heap.size ≤ q) s.heap s.heap [] := va_S.rf
  have hl := lv_entry ([.ref b]) (n := 9) (Nat.le_of_ble_eq_true rfl)
  rw [lg_entry_eq]
  generalize (lg_sl ([.ref b]) ++ List.replicate (9 - (lg_sl ([.ref b])).length) Slot.unset).toArray = ls at hl ⊢
  have hl : lv_has ls 9 [(0, .ref b)] := hl
  refine va_new (A := fun q : Nat => s.heap.size ≤ q) (ci := 11) (fs := [.null, .null, .null, .null, .null, .null, .int 0]) (C := RX11) (T := TX11) (N := 7) hx hb htg inX11 tyX11 tyX11_ok hown (htg (.classLink RL 8 RX11) (gw_t (tin1 (List.mem_of_getElem? (i := 28) rfl)) rfl)) (htg (.instantiable RX11 7) (gw_t (tin1 (List.mem_of_getElem? (i := 29) rfl)) rfl)) (htg (.initialized RX11) (gw_t (tin1 (List.mem_of_getElem? (i := 1) rfl)) rfl)) hK nil_P nil_D hS0 hA0 rfl (fun j hj => by rcases (show j = 0 ∨ j = 1 ∨ j = 2 ∨ j = 3 ∨ j = 4 ∨ j = 5 ∨ j = 6 by omega) with rfl | rfl | rfl | rfl | rfl | rfl | rfl <;> rfl) (Nat.le_of_ble_eq_true rfl) (Nat.le_of_ble_eq_true rfl) dL_law_0 (fun h1 H1 hP1 hD1 hS1 => ?_)
  have hP1 : va_P Γ.1 vwCl [(h1, .inr (11, [.null, .null, .null, .null, .null, .null, .int 0]))] H1 := hP1
  have hD1 : va_D (fun q : Nat => s.heap.size ≤ q) [(h1, .inr (11, [.null, .null, .null, .null, .null, .null, .int 0]))] := hD1
  refine lv_dup hx hb dL_law_3 rfl ?_
  have hF1 := va_free (wc := [(h1, .inr (11, [.null, .null, .null, .null, .null, .null, .int 0]))]) hD1 hS1 hA0 [0] rfl
  have hZ1 := (hZ.kept hS1.2.1).narrow hF1
  refine va_callv (va_runI (As := []) (rest := [.ref h1]) ⟨hx, hb, hml, hown, htg⟩ (wn11 l Γ h1 H1.size σ0 eX) (cwI 0 htg (gw_cons (gw_t (tin1 (List.mem_of_getElem? (i := 32) rfl)) rfl)) rfl rfl rfl (htg (.initialized RX11) (gw_t (tin1 (List.mem_of_getElem? (i := 1) rfl)) rfl)) (htg (.methodLink RL 146 yX11_init) (gw_t (tin1 (List.mem_of_getElem? (i := 30) rfl)) rfl)) (htg (.instanceMethod yX11_init) (gw_t (tin1 (List.mem_of_getElem? (i := 31) rfl)) rfl)) rfl (by decide +kernel) ⟨Nat.le_of_ble_eq_true rfl, Nat.le_of_ble_eq_true rfl⟩) ⟨fun a U g mk q => by obtain ⟨q0, q1, qP, qK, qD, qN, qO, qZ, qV⟩ := q; exact ⟨q0, q1, qP, va_K.moved (u := U) (U := U.calling g mk a) (Vm.Alike.refl U.vm) qK, qD, NW.same (s := U) (U := U.calling g mk a) rfl qN, va_AO.moved (u := U) (U := U.calling g mk a) (Vm.Alike.refl U.vm) qO, ZH.moved (u := U) (U := U.calling g mk a) (Vm.Alike.refl U.vm) qZ, ZV.same (u := U) (U := U.calling g mk a) rfl qV⟩, fun U hU hW => ⟨rfl, by rw [hU], by rw [hU]; exact hP1, va_K.moved hW.alike hK, hD1.weaken (fun _ _ _ _ => trivial), hNW.warm hW, va_AO.moved hW.alike hAO, by rw [hU]; exact hZ1.moved hW.alike, hV.warm hW⟩⟩ rfl rfl hl.1 rfl (lv_room (Nat.le_of_ble_eq_true rfl)) dL_law_4 ⟨Nat.le_of_ble_eq_true rfl, Nat.le_of_ble_eq_true rfl⟩) hS1 (fun q _ h => hF1 q h) hF1 (fun u t H2 locs2 ht hvm hw hB hz2 hk2 hS2 => ?_)
  obtain ⟨ax, ex, hPX, hAX⟩ := hB
  rw [ht] at hPX
  refine lv_astore_n (lv' := [(1, .ref h1), (0, .ref b)]) hx hb dL_law_7 rfl hl (by decide) rfl (fun ls hl => ?_)
  refine va_forget (fun q hq => hS2.2.2 q hq) ?_
  have hA2 : ∀ q : Nat, H2.size ≤ q → (fun q : Nat => H2.size ≤ q) q := fun _ h => h
  have hSb : va_S (fun q : Nat => H2.size ≤ q) H2 H2 [] := va_S.rf
  refine va_new (A := fun q : Nat => H2.size ≤ q) (H0 := H2) (ci := 12) (fs := [.int 0, .null, .null, .int 0, .null, .int 0, .null, .null, .int 0, .null, .int 0, .int 0, .int 0, .int 0, .int 0, .int 0, .int 0, .int 0, .int 0]) (C := RX12) (T := TX12) (N := 19) hx hb htg inX12 tyX12 tyX12_ok hown (htg (.classLink RL 147 RX12) (gw_t (tin7 (List.mem_of_getElem? (i := 34) rfl)) rfl)) (htg (.instantiable RX12 19) (gw_t (tin7 (List.mem_of_getElem? (i := 35) rfl)) rfl)) (htg (.initialized RX12) (gw_t (tin1 (List.mem_of_getElem? (i := 19) rfl)) rfl)) hK nil_P nil_D hSb hA2 rfl (fun j hj => by rcases (show j = 0 ∨ j = 1 ∨ j = 2 ∨ j = 3 ∨ j = 4 ∨ j = 5 ∨ j = 6 ∨ j = 7 ∨ j = 8 ∨ j = 9 ∨ j = 10 ∨ j = 11 ∨ j = 12 ∨ j = 13 ∨ j = 14 ∨ j = 15 ∨ j = 16 ∨ j = 17 ∨ j = 18 by omega) with rfl | rfl | rfl | rfl | rfl | rfl | rfl | rfl | rfl | rfl | rfl | rfl | rfl | rfl | rfl | rfl | rfl | rfl | rfl <;> rfl) (Nat.le_of_ble_eq_true rfl) (Nat.le_of_ble_eq_true rfl) dL_law_8 (fun h3 H3 hP3 hD3 hS3 => ?_)
  have hP3 : va_P Γ.1 vwCl [(h3, .inr (12, [.int 0, .null, .null, .int 0, .null, .int 0, .null, .null, .int 0, .null, .int 0, .int 0, .int 0, .int 0, .int 0, .int 0, .int 0, .int 0, .int 0]))] H3 := hP3
  have hD3 : va_D (fun q : Nat => H2.size ≤ q) [(h3, .inr (12, [.int 0, .null, .null, .int 0, .null, .int 0, .null, .null, .int 0, .null, .int 0, .int 0, .int 0, .int 0, .int 0, .int 0, .int 0, .int 0, .int 0]))] := hD3
  refine lv_dup hx hb dL_law_11 rfl ?_
  have hF3 := va_free (wc := [(h3, .inr (12, [.int 0, .null, .null, .int 0, .null, .int 0, .null, .null, .int 0, .null, .int 0, .int 0, .int 0, .int 0, .int 0, .int 0, .int 0, .int 0, .int 0]))]) hD3 hS3 hA2 [0] rfl
  have hk3 : ∀ q : Nat, q < s.heap.size → ¬ s.heap.size ≤ q → H3[q]? = s.heap[q]? := fun q h1 h2 => (kp_ hS3 q (Nat.lt_of_lt_of_le h1 hS2.1)).trans (hS2.2.1 q h1 h2)
  have hZ3 := (hZ.kept hk3).narrow (B := va_A [(h3, .inr (12, [.int 0, .null, .null, .int 0, .null, .int 0, .null, .null, .int 0, .null, .int 0, .int 0, .int 0, .int 0, .int 0, .int 0, .int 0, .int 0, .int 0]))] H3.size) (fun q h => Nat.le_trans hS2.1 (hF3 q h))
  refine va_callv (va_runI (As := []) (rest := [.ref h3]) ⟨hx, hb, hml, hown, htg⟩ (wn12 l Γ h3 H3.size τ0 eM) (cwI 0 htg (gw_cons (gw_t (tin7 (List.mem_of_getElem? (i := 38) rfl)) rfl)) rfl rfl rfl (htg (.initialized RX12) (gw_t (tin1 (List.mem_of_getElem? (i := 19) rfl)) rfl)) (htg (.methodLink RL 149 yX12_init) (gw_t (tin7 (List.mem_of_getElem? (i := 36) rfl)) rfl)) (htg (.instanceMethod yX12_init) (gw_t (tin7 (List.mem_of_getElem? (i := 37) rfl)) rfl)) rfl (by decide +kernel) ⟨Nat.le_of_ble_eq_true rfl, Nat.le_of_ble_eq_true rfl⟩) ⟨fun a U g mk q => by obtain ⟨q0, q1, qP, qK, qD, qO, qZ, qV⟩ := q; exact ⟨q0, q1, qP, va_K.moved (u := U) (U := U.calling g mk a) (Vm.Alike.refl U.vm) qK, qD, over_moved (u := U) (E := U.calling g mk a) (Vm.Alike.refl U.vm) qO, ZH.moved (u := U) (U := U.calling g mk a) (Vm.Alike.refl U.vm) qZ, ZV.same (u := U) (U := U.calling g mk a) rfl qV⟩, fun U hU hW => ⟨rfl, by rw [hU], by rw [hU]; exact hP3, va_K.moved hW.alike hK, hD3.weaken (fun _ _ _ _ => trivial), over_moved hW.alike hAOA, by rw [hU]; exact hZ3.moved hW.alike, hV.warm hW⟩⟩ rfl rfl hl.1 rfl (lv_room (Nat.le_of_ble_eq_true rfl)) dL_law_12 ⟨Nat.le_of_ble_eq_true rfl, Nat.le_of_ble_eq_true rfl⟩) hS3 (fun q _ h => hF3 q h) hF3 (fun u t H4 locs4 ht hvm hw hB hz4 hk4 hS4 => ?_)
  obtain ⟨am, em, hPM, hAM⟩ := hB
  rw [ht] at hPM
  refine lv_astore_n (lv' := [(2, .ref h3), (1, .ref h1), (0, .ref b)]) hx hb dL_law_15 rfl hl (by decide) rfl (fun ls hl => ?_)
  refine va_forget (fun q hq => Nat.le_trans hS2.1 (hS4.2.2 q hq)) ?_
  refine lv_iconst (v := 1) hx hb dL_law_16 (by decide) ?_
  refine va_newa (A := fun q : Nat => H4.size ≤ q) (H0 := H4) (atype := .long) (ty := .long) (a0 := (1, .inr (.inl (fun _ => 0)))) hx hb (htg (.arrayClass .long) (gw_t (tin9 (List.mem_of_getElem? (i := 176) rfl)) rfl)) rfl hK nil_P nil_D va_S.rf (fun _ h => h) (fun cA => rfl) (by decide) (N' := 1) (by decide) (Nat.le_of_ble_eq_true rfl) (Nat.le_of_ble_eq_true rfl) (Nat.le_of_ble_eq_true rfl) dL_law_17 (fun o cA H5 hK5 hP5 hD5 hS5 => ?_)
  have ec := cA_long hK5
  subst ec
  refine lv_astore_n (lv' := [(3, .ref o), (2, .ref h3), (1, .ref h1), (0, .ref b)]) hx hb dL_law_19 rfl hl (by decide) rfl (fun ls hl => ?_)
  refine lv_iconst (v := 0) hx hb dL_law_20 (by decide) ?_
  refine lv_istore (lv' := [(4, .int 0), (3, .ref o), (2, .ref h3), (1, .ref h1), (0, .ref b)]) hx hb dL_law_21 hl (by decide) rfl (fun ls hl => ?_)
  subst ex
  subst em
  have ho : H4.size ≤ o := hD5.2 0 (o, .inl (Γ.2.1 5, 1, .inr (.inl (fun _ => 0)))) rfl
  have h24 : H2.size ≤ H4.size := hS4.1
  have hs2 : s.heap.size ≤ H2.size := hS2.1
  have ltX : ∀ g k, dX g k → ax g k < H2.size := fun g k hd => (hPX g k hd).lt
  have ltM : ∀ g k, dM g k → am g k < H4.size := fun g k hd => (hPM g k hd).lt
  have geM : ∀ g k, dM g k → H2.size ≤ am g k := fun g k hd => hF3 _ (hAM.2 g k hd)
  have C : LC l Γ p s m b L xs c := ⟨hx, hb, hml, hown, htg, hK, hZ, hV, hNC, hX, hbl, hst⟩
  have D : LD s ax am o := by
    refine ⟨⟨hAX.1, fun g k hd => ⟨g, k, hd, rfl⟩⟩, ⟨hAM.1, fun g k hd => ⟨g, k, hd, rfl⟩⟩, ?_, ?_, by omega, ?_, ?_, ?_⟩
    · rintro z ⟨g, k, hd, rfl⟩
      exact hF1 _ (hAX.2 g k hd)
    · rintro z ⟨g, k, hd, rfl⟩
      exact Nat.le_trans hs2 (geM g k hd)
    · rintro z ⟨g, k, hd, rfl⟩ ⟨g', k', hd', h⟩
      have h1 := ltX g k hd
      have h2 := geM g' k' hd'
      omega
    · rintro ⟨g, k, hd, h⟩
      have h1 := ltX g k hd
      omega
    · rintro ⟨g, k, hd, h⟩
      have h1 := ltM g k hd
      omega
  have I : LI Γ s ax am o σ0 τ0 (fun _ => 0) H5 [] := by
    refine ⟨⟨Nat.le_trans hs2 (Nat.le_trans h24 hS5.1), fun q h1 h2 => ?_, fun l hl => nomatch hl⟩, fun g k hd => ?_, fun g k hd => ?_, hP5 0 _ rfl⟩
    · rw [kp_ hS5 q (by omega), kp_ hS4 q (by omega)]
      exact hS2.2.1 q h1 h2
    · have h1 := ltX g k hd
      exact (hPX g k hd).kept (by rw [kp_ hS5 _ (by omega), kp_ hS4 _ h1])
    · have h1 := ltM g k hd
      exact (hPM g k hd).kept (by rw [kp_ hS5 _ h1])
  have hd0 := Drawn.sameBut.refl s.drawn lw_cs
  refine W.widen (k := 400 + 5 * 0) (n := 14000 + 30 * 0) (Nat.le_of_ble_eq_true rfl) (Nat.le_of_ble_eq_true rfl) ?_
  refine law_loop C D hL (fun H' locs' ls' hS' => ?_) (L + 1) 0 σ0 τ0 (fun _ => 0) H5 [] ls (by omega) (by omega) I hR0 (lv_sub hl [0, 4, 3, 2, 1] rfl)
  refine va_forget (fun q hq => hS'.2.2 q hq) ?_
  refine lv_iconst (v := 1) hx hb dL_law_3268 (by decide) ?_
  exact lw_ret (d0 := s.drawn) hd0 hx hb hr hlocks dL_law_3269
