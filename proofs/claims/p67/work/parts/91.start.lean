/-! the law from its entry -/
theorem kp_ {H H' : Heap} {locs : List Loc} (hS : va_S (fun q => H.size ≤ q) H H' locs) : ∀ q : Nat, q < H.size → H'[q]? = H[q]? := fun q h => hS.2.1 q h (Nat.not_le.mpr h)
theorem nil_P {D : va_G} {H : Heap} : va_P D vwCl [] H := fun k q h => by simp at h
theorem nil_D {A : Nat → Prop} : va_D A [] := ⟨fun i j p q h => by simp at h, fun k q h => by simp at h⟩
set_option maxHeartbeats 8000000 in
set_option maxRecDepth 100000 in
theorem whole_start {p : Program} {e : Env} {s : State} {m : MethodId} {below : List Frame} {meth : Method} {c : Code} (l : Launch) (hflags : l.flags = flags0) {b L : Nat} {xs : Nat → Int32} (hL : L ≤ 260) (C0 : lw_At p s m meth c b L xs) : W p l e room_1 s m #[Value.ref b] below meth c s.heap [] 0 0 (lw_Z below #[Value.ref b] s) (entryFrame m ([Value.ref b] : List Value).toArray 4) := by
  obtain ⟨hx, hb, hr, hml, hown, hts, hX, hbl, hlocks, hgv⟩ := id C0
  have hb : c.code = cL_law := hb
  have hown : s.vm.findClass RL = some m.cls := hown
  have hst : l.stackTraces = false := by
    unfold Launch.stackTraces
    rw [hflags]
    decide +kernel
  have htg : ∀ w ∈ gw, w.before #[Value.ref b] s = true := fun w h => hts w (List.mem_filter.mp h).1
  obtain ⟨Γ, hK, hZ, hV, hNC, hNW, hAO, hDG⟩ := given_ok hts hgv
  obtain ⟨σ0, G, eX, hs, hG, h0, h5⟩ := start_68
  have hA0 : ∀ q : Nat, s.heap.size ≤ q → (fun q : Nat => s.heap.size ≤ q) q := fun _ h => h
  have hS0 : va_S (fun q : Nat => s.heap.size ≤ q) s.heap s.heap [] := va_S.rf
  have hl := lv_entry ([.ref b]) (n := 4) (Nat.le_of_ble_eq_true rfl)
  rw [lg_entry_eq]
  generalize (lg_sl ([.ref b]) ++ List.replicate (4 - (lg_sl ([.ref b])).length) Slot.unset).toArray = ls at hl ⊢
  have hl : lv_has ls 4 [(0, .ref b)] := hl
  refine va_new (A := fun q : Nat => s.heap.size ≤ q) (ci := 11) (fs := [.null, .null, .null, .null, .null, .null, .int 0]) (C := RX11) (T := TX11) (N := 7) hx hb htg inX11 tyX11 tyX11_ok hown (htg (.classLink RL 20 RX11) (gw_t (tin1 (List.mem_of_getElem? (i := 31) rfl)) rfl)) (htg (.instantiable RX11 7) (gw_t (tin1 (List.mem_of_getElem? (i := 32) rfl)) rfl)) (htg (.initialized RX11) (gw_t (tin1 (List.mem_of_getElem? (i := 1) rfl)) rfl)) hK nil_P nil_D hS0 hA0 rfl (fun j hj => by rcases (show j = 0 ∨ j = 1 ∨ j = 2 ∨ j = 3 ∨ j = 4 ∨ j = 5 ∨ j = 6 by omega) with rfl | rfl | rfl | rfl | rfl | rfl | rfl <;> rfl) (Nat.le_of_ble_eq_true rfl) (Nat.le_of_ble_eq_true rfl) dL_law_0 (fun h1 H1 hP1 hD1 hS1 => ?_)
  have hP1 : va_P Γ.1 vwCl [(h1, .inr (11, [.null, .null, .null, .null, .null, .null, .int 0]))] H1 := hP1
  have hD1 : va_D (fun q : Nat => s.heap.size ≤ q) [(h1, .inr (11, [.null, .null, .null, .null, .null, .null, .int 0]))] := hD1
  refine lv_dup hx hb dL_law_3 rfl ?_
  have hF1 := va_free (wc := [(h1, .inr (11, [.null, .null, .null, .null, .null, .null, .int 0]))]) hD1 hS1 hA0 [0] rfl
  have hZ1 := (hZ.kept hS1.2.1).narrow hF1
  refine va_callv (va_runI (As := []) (rest := [.ref h1]) ⟨hx, hb, hml, hown, htg⟩ (wn11 l Γ h1 H1.size (xg σ0 8 G) eX) (cwI 0 htg (gw_cons (gw_t (tin1 (List.mem_of_getElem? (i := 35) rfl)) rfl)) rfl rfl rfl (htg (.initialized RX11) (gw_t (tin1 (List.mem_of_getElem? (i := 1) rfl)) rfl)) (htg (.methodLink RL 313 yX11_init) (gw_t (tin1 (List.mem_of_getElem? (i := 33) rfl)) rfl)) (htg (.instanceMethod yX11_init) (gw_t (tin1 (List.mem_of_getElem? (i := 34) rfl)) rfl)) rfl (by decide +kernel) ⟨Nat.le_of_ble_eq_true rfl, Nat.le_of_ble_eq_true rfl⟩) ⟨fun a U g mk q => by obtain ⟨q0, q1, qP, qK, qD, qN, qO, qZ, qV⟩ := q; exact ⟨q0, q1, qP, va_K.moved (u := U) (U := U.calling g mk a) (Vm.Alike.refl U.vm) qK, qD, NW.same (s := U) (U := U.calling g mk a) rfl qN, va_AO.moved (u := U) (U := U.calling g mk a) (Vm.Alike.refl U.vm) qO, ZH.moved (u := U) (U := U.calling g mk a) (Vm.Alike.refl U.vm) qZ, ZV.same (u := U) (U := U.calling g mk a) rfl qV⟩, fun U hU hW => ⟨rfl, by rw [hU], by rw [hU]; exact hP1, va_K.moved hW.alike hK, hD1.weaken (fun _ _ _ _ => trivial), hNW.warm hW, va_AO.moved hW.alike hAO, by rw [hU]; exact hZ1.moved hW.alike, hV.warm hW⟩⟩ rfl rfl hl.1 rfl (lv_room (Nat.le_of_ble_eq_true rfl)) dL_law_4 ⟨Nat.le_of_ble_eq_true rfl, Nat.le_of_ble_eq_true rfl⟩) hS1 (fun q _ h => hF1 q h) hF1 (fun u t H2 locs2 ht hvm hw hB hz2 hk2 hS2 => ?_)
  obtain ⟨ax, ex, hPX, hAX⟩ := hB
  rw [ht] at hPX
  subst ex
  refine lv_astore_n (lv' := [(1, .ref (ax 0 0)), (0, .ref b)]) hx hb dL_law_7 rfl hl (by decide) rfl (fun ls hl => ?_)
  have lf : LF9 Γ ax b L xs p s m #[Value.ref b] c := ⟨⟨hx, hb, hml, hown, htg⟩, hK, ⟨hAX.1, fun g k hd => ⟨g, k, hd, rfl⟩⟩, fun q h => by obtain ⟨g, k, hd, rfl⟩ := h; exact hF1 _ (hAX.2 g k hd), hZ, hV, hNC, hDG, hX, hbl⟩
  refine W.widen (k := 327) (n := 6747) (by decide) (by decide) ?_
  refine law_begin lf hst hL (fun H' locs' ls' hS' => ?_) hPX hS2 hs hG h0 h5 hl
  refine va_forget (fun q hq => hS'.2.2 q hq) ?_
  refine lv_iconst (v := 1) hx hb dL_law_154 (by decide) ?_
  refine W.widen (k := 600086) (n := 7301442) (by decide) (by decide) ?_
  exact lw_ret hx hb hr hlocks dL_law_155
