/-! printed: the law's plain wrappers -/
theorem mwL_7 : MWv RL 7 yX11_truncateInput cX11_truncateInput 2 (some .int) 1 := ⟨gw_t (tin5 (List.mem_of_getElem? (i := 9) rfl)) rfl, gw_t (tin5 (List.mem_of_getElem? (i := 10) rfl)) rfl, gw_t (tin5 (List.mem_of_getElem? (i := 11) rfl)) rfl, gw_t (tin1 (List.mem_of_getElem? (i := 1) rfl)) rfl, gw_t (tin5 (List.mem_of_getElem? (i := 12) rfl)) rfl, by decide, by decide, by decide +kernel⟩
set_option maxHeartbeats 4000000 in
set_option maxRecDepth 100000 in
theorem wL_truncateInput (l : Launch) (hst : l.stackTraces = false) (Γ : Wc) (ad : Nat → Nat → Nat) (o : Nat) (p1 : Int32) (σ : Sig) (q : Xe) (hF : f11_truncateInput p1 σ = some q) (hq : q.1 = 0 ∨ q.1 = 1) : MWr l Γ ad o yL_truncateInput cL_truncateInput 4 [(0, 9, 12, 13)] 8 133 1 [.ref (ad 0 0), .int p1, .ref o] σ q [1] := by
  refine vx_ofWH (by decide) rfl ?_
  intro p e s m args below meth c s₁ B hml hv
  obtain ⟨rfl, ⟨hP, hK, hA, hZ, hV⟩, ⟨f, hf⟩, ho, hNC⟩ := hv
  have hx := B.exec
  have hb := B.bytes
  have hr := B.returns
  have hnl := B.notSynchronized
  have hts := atoms_spec (ws := .codeWith yL_truncateInput cL_truncateInput 4 (some .int) [(0, 9, 12, 13)] :: gw) B.pre
  have htg : ∀ w ∈ gw, w.before _ s = true := fun w h => hts w (List.mem_cons_of_mem _ h)
  have hown : s.vm.findClass RL = some m.cls := findClass_of_methodNamed B.named
  have htab := vx_table (x := yL_truncateInput) B (hts _ List.mem_cons_self)
  have cx : CX SX Γ ad (AXs ad) RL cL_truncateInput 4 p s m _ c := ⟨hx, hb, hml, hown, htg, hK, hA, hZ, hV⟩
  have hPS : PS SX Γ ad (AXs ad) s σ s.heap [] := ⟨hP, va_S.rf⟩
  have hS : va_S (fun z => AXs ad z ∨ z = o) s.heap s.heap [] := va_S.rf
  have hl := lv_entry ([.ref (ad 0 0), .int p1, .ref o]) (n := 4) (Nat.le_of_ble_eq_true rfl)
  rw [lg_entry_eq]
  generalize (lg_sl ([.ref (ad 0 0), .int p1, .ref o]) ++ List.replicate (4 - (lg_sl ([.ref (ad 0 0), .int p1, .ref o])).length) Slot.unset).toArray = ls at hl ⊢
  have hl : lv_has ls 4 [(0, .ref (ad 0 0)), (1, .int p1), (2, .ref o)] := hl
  refine lv_aload_n hx hb dL_truncateInput_0 rfl (lv_at hl 2 rfl) ?_
  refine lv_iconst (v := 0) hx hb dL_truncateInput_1 (by decide) ?_
  refine lv_aload_n hx hb dL_truncateInput_2 rfl (lv_at hl 0 rfl) ?_
  refine lv_iload_n hx hb dL_truncateInput_3 rfl (lv_at hl 1 rfl) ?_
  refine vx_calli (vx_runV (As := [.int p1]) (rest := [.int 0, .ref o]) (fixOf cx) (w11_truncateInput l hst Γ ad (AXs ad) p1 σ q hF) (mwL_7.callB cx ⟨Nat.le_of_ble_eq_true rfl, Nat.le_of_ble_eq_true rfl⟩) ⟨Pre.blind, recvOf cx hPS (dXr (by decide)) rfl rfl, fun U hU hW => ⟨rfl, cx.pre hPS hU hW⟩⟩ rfl rfl hl.1 rfl (lv_room (Nat.le_of_ble_eq_true rfl)) dL_truncateInput_4 ⟨Nat.le_of_ble_eq_true rfl, Nat.le_of_ble_eq_true rfl⟩) hS (fun q _ h => Or.inl h) (fun q h => Or.inl h) (fun q _ h => Or.inl h) (fun E ce q9 u t H1 locs1 ht hvm hu hb' hz hf' hS hce hcv hcl => ?_) (fun r u t H1 locs1 ht hvm hw hB hz1 hk1 hS => ?_)
  · have ho1 := hf.kept (by rw [hf' o hf.lt ho])
    obtain ⟨hE, hB⟩ := hb'
    rw [ht] at hB
    have hu0 : q.1 ≠ 0 := hu
    refine vx_widen (k := 1) (n := 6) (Nat.le_of_ble_eq_true rfl) (Nat.le_of_ble_eq_true rfl) ?_
    rcases hq with h | h
    · exact absurd h hu0
    · rw [h] at hE
      cases hE
      refine vx_catch hown [] _ _ htab (fun z hz => nomatch hz) (by decide) (by decide) (htg (.classLink RL 13 "java/lang/IllegalArgumentException") (gw_t (tin5 (List.mem_of_getElem? (i := 8) rfl)) rfl)) (va_Nw.use rfl (hV.1 _ (List.mem_filter.mpr ⟨(tin5 (List.mem_of_getElem? (i := 18) rfl)), rfl⟩))) hce hcv hcl ?_
      refine lv_astore_n (lv' := [(3, .ref q9), (0, .ref (ad 0 0)), (1, .int p1), (2, .ref o)]) hx hb dL_truncateInput_12 rfl hl (by decide) rfl (fun ls hl => ?_)
      refine lv_iconst (v := 1) hx hb dL_truncateInput_13 (by decide) ?_
      refine vx_ret ?_
      exact W.iret (v := 1) hx hb hr (fun t ht hW => ⟨⟨1, (), rfl, Or.inr ⟨0, by rw [h]; rfl, hu0, rfl⟩, by rw [ht]; exact hB, f, by rw [ht]; exact ho1, fun e => absurd e hu0⟩, hS.F ht⟩) hS.2.2 dL_truncateInput_14
  · obtain ⟨hq0, rfl⟩ := hw
    rw [ht] at hB
    have ho1 := hf.kept (hk1 o hf.lt ho)
    refine lv_i2l hx hb dL_truncateInput_7 rfl ?_
    refine W.last hx hb ho1 ((hK.2 5 _ rfl).1 1 (fun j => .long (f j))) (fun q => by cases q) (by show ¬ ((0 : Int32) < 0 ∨ (arrV _ _ _).slots.size ≤ _); rw [arrV_size]; exact (by unfold vp_in; decide : vp_in 0 1)) rfl rfl dL_truncateInput_8 fun H2 e2 z oq => ?_
    have hno : ∀ g c, dX g c → ad g c ≠ o := fun g c hd e => ho ⟨g, c, hd, e.symm⟩
    have hP2 : PX SX Γ ad q.2.2 H2 := fun g c hd => (hB g c hd).kept (oq _ (hno g c hd))
    have ho2 : va_at Γ.1 vwCl (oC Γ o (vp_updL f 0 q.2.1.toInt64)) H2 := out_put e2
    have hS2 := hS.put (k := (0 : Int32).toNatClampNeg) z oq (Or.inr rfl : (fun z => AXs ad z ∨ z = o) o)
    refine W.eq (g2 := F0 m 9 ls []) rfl ?_
    refine lv_goto (tgt := 15) hx hb dL_truncateInput_9 (by decide) ?_
    refine lv_iconst (v := 0) hx hb dL_truncateInput_15 (by decide) ?_
    refine W.widen (k := 1) (n := 6) (Nat.le_of_ble_eq_true rfl) (Nat.le_of_ble_eq_true rfl) ?_
    refine vx_ret ?_
    exact W.iret (v := 0) hx hb hr (fun t ht hW => ⟨⟨0, (), rfl, Or.inl ⟨hq0, rfl⟩, by rw [ht]; exact hP2, _, by rw [ht]; exact ho2, fun _ => by unfold vp_updL; exact if_pos rfl⟩, hS2.F ht⟩) hS2.2.2 dL_truncateInput_16
theorem mwL_21 : MWv RL 21 yX11_setRate cX11_setRate 3 (some .int) 1 := ⟨gw_t (tin5 (List.mem_of_getElem? (i := 119) rfl)) rfl, gw_t (tin5 (List.mem_of_getElem? (i := 120) rfl)) rfl, gw_t (tin5 (List.mem_of_getElem? (i := 121) rfl)) rfl, gw_t (tin1 (List.mem_of_getElem? (i := 1) rfl)) rfl, gw_t (tin5 (List.mem_of_getElem? (i := 122) rfl)) rfl, by decide, by decide, by decide +kernel⟩
set_option maxHeartbeats 4000000 in
set_option maxRecDepth 100000 in
theorem wL_setRate (l : Launch) (hst : l.stackTraces = false) (Γ : Wc) (ad : Nat → Nat → Nat) (o : Nat) (p1 : Int32) (σ : Sig) (q : Xe) (hF : f11_setRate p1 σ = some q) (hq : q.1 = 0 ∨ q.1 = 1) : MWr l Γ ad o yL_setRate cL_setRate 4 [(0, 9, 12, 13)] 8 134 1 [.ref (ad 0 0), .int p1, .ref o] σ q [1] := by
  refine vx_ofWH (by decide) rfl ?_
  intro p e s m args below meth c s₁ B hml hv
  obtain ⟨rfl, ⟨hP, hK, hA, hZ, hV⟩, ⟨f, hf⟩, ho, hNC⟩ := hv
  have hx := B.exec
  have hb := B.bytes
  have hr := B.returns
  have hnl := B.notSynchronized
  have hts := atoms_spec (ws := .codeWith yL_setRate cL_setRate 4 (some .int) [(0, 9, 12, 13)] :: gw) B.pre
  have htg : ∀ w ∈ gw, w.before _ s = true := fun w h => hts w (List.mem_cons_of_mem _ h)
  have hown : s.vm.findClass RL = some m.cls := findClass_of_methodNamed B.named
  have htab := vx_table (x := yL_setRate) B (hts _ List.mem_cons_self)
  have cx : CX SX Γ ad (AXs ad) RL cL_setRate 4 p s m _ c := ⟨hx, hb, hml, hown, htg, hK, hA, hZ, hV⟩
  have hPS : PS SX Γ ad (AXs ad) s σ s.heap [] := ⟨hP, va_S.rf⟩
  have hS : va_S (fun z => AXs ad z ∨ z = o) s.heap s.heap [] := va_S.rf
  have hl := lv_entry ([.ref (ad 0 0), .int p1, .ref o]) (n := 4) (Nat.le_of_ble_eq_true rfl)
  rw [lg_entry_eq]
  generalize (lg_sl ([.ref (ad 0 0), .int p1, .ref o]) ++ List.replicate (4 - (lg_sl ([.ref (ad 0 0), .int p1, .ref o])).length) Slot.unset).toArray = ls at hl ⊢
  have hl : lv_has ls 4 [(0, .ref (ad 0 0)), (1, .int p1), (2, .ref o)] := hl
  refine lv_aload_n hx hb dL_setRate_0 rfl (lv_at hl 2 rfl) ?_
  refine lv_iconst (v := 0) hx hb dL_setRate_1 (by decide) ?_
  refine lv_aload_n hx hb dL_setRate_2 rfl (lv_at hl 0 rfl) ?_
  refine lv_iload_n hx hb dL_setRate_3 rfl (lv_at hl 1 rfl) ?_
  refine vx_calli (vx_runV (As := [.int p1]) (rest := [.int 0, .ref o]) (fixOf cx) (w11_setRate l hst Γ ad (AXs ad) p1 σ q hF) (mwL_21.callB cx ⟨Nat.le_of_ble_eq_true rfl, Nat.le_of_ble_eq_true rfl⟩) ⟨Pre.blind, recvOf cx hPS (dXr (by decide)) rfl rfl, fun U hU hW => ⟨rfl, cx.pre hPS hU hW⟩⟩ rfl rfl hl.1 rfl (lv_room (Nat.le_of_ble_eq_true rfl)) dL_setRate_4 ⟨Nat.le_of_ble_eq_true rfl, Nat.le_of_ble_eq_true rfl⟩) hS (fun q _ h => Or.inl h) (fun q h => Or.inl h) (fun q _ h => Or.inl h) (fun E ce q9 u t H1 locs1 ht hvm hu hb' hz hf' hS hce hcv hcl => ?_) (fun r u t H1 locs1 ht hvm hw hB hz1 hk1 hS => ?_)
  · have ho1 := hf.kept (by rw [hf' o hf.lt ho])
    obtain ⟨hE, hB⟩ := hb'
    rw [ht] at hB
    have hu0 : q.1 ≠ 0 := hu
    refine vx_widen (k := 1) (n := 6) (Nat.le_of_ble_eq_true rfl) (Nat.le_of_ble_eq_true rfl) ?_
    rcases hq with h | h
    · exact absurd h hu0
    · rw [h] at hE
      cases hE
      refine vx_catch hown [] _ _ htab (fun z hz => nomatch hz) (by decide) (by decide) (htg (.classLink RL 13 "java/lang/IllegalArgumentException") (gw_t (tin5 (List.mem_of_getElem? (i := 8) rfl)) rfl)) (va_Nw.use rfl (hV.1 _ (List.mem_filter.mpr ⟨(tin5 (List.mem_of_getElem? (i := 18) rfl)), rfl⟩))) hce hcv hcl ?_
      refine lv_astore_n (lv' := [(3, .ref q9), (0, .ref (ad 0 0)), (1, .int p1), (2, .ref o)]) hx hb dL_setRate_12 rfl hl (by decide) rfl (fun ls hl => ?_)
      refine lv_iconst (v := 1) hx hb dL_setRate_13 (by decide) ?_
      refine vx_ret ?_
      exact W.iret (v := 1) hx hb hr (fun t ht hW => ⟨⟨1, (), rfl, Or.inr ⟨0, by rw [h]; rfl, hu0, rfl⟩, by rw [ht]; exact hB, f, by rw [ht]; exact ho1, fun e => absurd e hu0⟩, hS.F ht⟩) hS.2.2 dL_setRate_14
  · obtain ⟨hq0, rfl⟩ := hw
    rw [ht] at hB
    have ho1 := hf.kept (hk1 o hf.lt ho)
    refine lv_i2l hx hb dL_setRate_7 rfl ?_
    refine W.last hx hb ho1 ((hK.2 5 _ rfl).1 1 (fun j => .long (f j))) (fun q => by cases q) (by show ¬ ((0 : Int32) < 0 ∨ (arrV _ _ _).slots.size ≤ _); rw [arrV_size]; exact (by unfold vp_in; decide : vp_in 0 1)) rfl rfl dL_setRate_8 fun H2 e2 z oq => ?_
    have hno : ∀ g c, dX g c → ad g c ≠ o := fun g c hd e => ho ⟨g, c, hd, e.symm⟩
    have hP2 : PX SX Γ ad q.2.2 H2 := fun g c hd => (hB g c hd).kept (oq _ (hno g c hd))
    have ho2 : va_at Γ.1 vwCl (oC Γ o (vp_updL f 0 q.2.1.toInt64)) H2 := out_put e2
    have hS2 := hS.put (k := (0 : Int32).toNatClampNeg) z oq (Or.inr rfl : (fun z => AXs ad z ∨ z = o) o)
    refine W.eq (g2 := F0 m 9 ls []) rfl ?_
    refine lv_goto (tgt := 15) hx hb dL_setRate_9 (by decide) ?_
    refine lv_iconst (v := 0) hx hb dL_setRate_15 (by decide) ?_
    refine W.widen (k := 1) (n := 6) (Nat.le_of_ble_eq_true rfl) (Nat.le_of_ble_eq_true rfl) ?_
    refine vx_ret ?_
    exact W.iret (v := 0) hx hb hr (fun t ht hW => ⟨⟨0, (), rfl, Or.inl ⟨hq0, rfl⟩, by rw [ht]; exact hP2, _, by rw [ht]; exact ho2, fun _ => by unfold vp_updL; exact if_pos rfl⟩, hS2.F ht⟩) hS2.2.2 dL_setRate_16
theorem mwL_24 : MWv RL 24 yX11_layBed cX11_layBed 5 (some .int) 4 := ⟨gw_t (tin5 (List.mem_of_getElem? (i := 127) rfl)) rfl, gw_t (tin5 (List.mem_of_getElem? (i := 128) rfl)) rfl, gw_t (tin5 (List.mem_of_getElem? (i := 129) rfl)) rfl, gw_t (tin1 (List.mem_of_getElem? (i := 1) rfl)) rfl, gw_t (tin5 (List.mem_of_getElem? (i := 130) rfl)) rfl, by decide, by decide, by decide +kernel⟩
set_option maxHeartbeats 4000000 in
set_option maxRecDepth 100000 in
theorem wL_layBed (l : Launch) (hst : l.stackTraces = false) (Γ : Wc) (ad : Nat → Nat → Nat) (o : Nat) (p1 p2 p3 p4 : Int32) (σ : Sig) (q : Xe) (hF : f11_layBed p1 p2 p3 p4 σ = some q) (hq : q.1 = 0 ∨ q.1 = 2 ∨ q.1 = 1 ∨ q.1 = 3) : MWr l Γ ad o yL_layBed cL_layBed 7 [(0, 14, 17, 19), (0, 14, 21, 13), (0, 14, 25, 28)] 8 136 5 [.ref (ad 0 0), .int p1, .int p2, .int p3, .int p4, .ref o] σ q [2, 1, 3] := by
  refine vx_ofWH (by decide) rfl ?_
  intro p e s m args below meth c s₁ B hml hv
  obtain ⟨rfl, ⟨hP, hK, hA, hZ, hV⟩, ⟨f, hf⟩, ho, hNC⟩ := hv
  have hx := B.exec
  have hb := B.bytes
  have hr := B.returns
  have hnl := B.notSynchronized
  have hts := atoms_spec (ws := .codeWith yL_layBed cL_layBed 7 (some .int) [(0, 14, 17, 19), (0, 14, 21, 13), (0, 14, 25, 28)] :: gw) B.pre
  have htg : ∀ w ∈ gw, w.before _ s = true := fun w h => hts w (List.mem_cons_of_mem _ h)
  have hown : s.vm.findClass RL = some m.cls := findClass_of_methodNamed B.named
  have htab := vx_table (x := yL_layBed) B (hts _ List.mem_cons_self)
  have cx : CX SX Γ ad (AXs ad) RL cL_layBed 7 p s m _ c := ⟨hx, hb, hml, hown, htg, hK, hA, hZ, hV⟩
  have hPS : PS SX Γ ad (AXs ad) s σ s.heap [] := ⟨hP, va_S.rf⟩
  have hS : va_S (fun z => AXs ad z ∨ z = o) s.heap s.heap [] := va_S.rf
  have hl := lv_entry ([.ref (ad 0 0), .int p1, .int p2, .int p3, .int p4, .ref o]) (n := 7) (Nat.le_of_ble_eq_true rfl)
  rw [lg_entry_eq]
  generalize (lg_sl ([.ref (ad 0 0), .int p1, .int p2, .int p3, .int p4, .ref o]) ++ List.replicate (7 - (lg_sl ([.ref (ad 0 0), .int p1, .int p2, .int p3, .int p4, .ref o])).length) Slot.unset).toArray = ls at hl ⊢
  have hl : lv_has ls 7 [(0, .ref (ad 0 0)), (1, .int p1), (2, .int p2), (3, .int p3), (4, .int p4), (5, .ref o)] := hl
  refine lv_aload hx hb dL_layBed_0 (lv_at hl 5 rfl) ?_
  refine lv_iconst (v := 0) hx hb dL_layBed_2 (by decide) ?_
  refine lv_aload_n hx hb dL_layBed_3 rfl (lv_at hl 0 rfl) ?_
  refine lv_iload_n hx hb dL_layBed_4 rfl (lv_at hl 1 rfl) ?_
  refine lv_iload_n hx hb dL_layBed_5 rfl (lv_at hl 2 rfl) ?_
  refine lv_iload_n hx hb dL_layBed_6 rfl (lv_at hl 3 rfl) ?_
  refine lv_iload hx hb dL_layBed_7 (lv_at hl 4 rfl) ?_
  refine vx_calli (vx_runV (As := [.int p1, .int p2, .int p3, .int p4]) (rest := [.int 0, .ref o]) (fixOf cx) (w11_layBed l hst Γ ad (AXs ad) p1 p2 p3 p4 σ q hF) (mwL_24.callB cx ⟨Nat.le_of_ble_eq_true rfl, Nat.le_of_ble_eq_true rfl⟩) ⟨Pre.blind, recvOf cx hPS (dXr (by decide)) rfl rfl, fun U hU hW => ⟨rfl, cx.pre hPS hU hW⟩⟩ rfl rfl hl.1 rfl (lv_room (Nat.le_of_ble_eq_true rfl)) dL_layBed_9 ⟨Nat.le_of_ble_eq_true rfl, Nat.le_of_ble_eq_true rfl⟩) hS (fun q _ h => Or.inl h) (fun q h => Or.inl h) (fun q _ h => Or.inl h) (fun E ce q9 u t H1 locs1 ht hvm hu hb' hz hf' hS hce hcv hcl => ?_) (fun r u t H1 locs1 ht hvm hw hB hz1 hk1 hS => ?_)
  · have ho1 := hf.kept (by rw [hf' o hf.lt ho])
    obtain ⟨hE, hB⟩ := hb'
    rw [ht] at hB
    have hu0 : q.1 ≠ 0 := hu
    refine vx_widen (k := 5) (n := 30) (Nat.le_of_ble_eq_true rfl) (Nat.le_of_ble_eq_true rfl) ?_
    rcases hq with h | h | h | h
    · exact absurd h hu0
    · rw [h] at hE
      cases hE
      refine vx_catch hown [] _ _ htab (fun z hz => nomatch hz) (by decide) (by decide) (htg (.classLink RL 19 "java/lang/IndexOutOfBoundsException") (gw_t (tin5 (List.mem_of_getElem? (i := 87) rfl)) rfl)) (va_Nw.use rfl (hV.1 _ (List.mem_filter.mpr ⟨(tin5 (List.mem_of_getElem? (i := 102) rfl)), rfl⟩))) hce hcv hcl ?_
      refine lv_astore (lv' := [(6, .ref q9), (0, .ref (ad 0 0)), (1, .int p1), (2, .int p2), (3, .int p3), (4, .int p4), (5, .ref o)]) hx hb dL_layBed_17 hl (by decide) rfl (fun ls hl => ?_)
      refine lv_iconst (v := 1) hx hb dL_layBed_19 (by decide) ?_
      refine vx_ret ?_
      exact W.iret (v := 1) hx hb hr (fun t ht hW => ⟨⟨1, (), rfl, Or.inr ⟨0, by rw [h]; rfl, hu0, rfl⟩, by rw [ht]; exact hB, f, by rw [ht]; exact ho1, fun e => absurd e hu0⟩, hS.F ht⟩) hS.2.2 dL_layBed_20
    · rw [h] at hE
      cases hE
      refine vx_catch hown [_] _ _ htab (fun z hz => Or.inr ⟨by rw [List.mem_singleton.mp hz]; decide, "java/lang/IndexOutOfBoundsException", by rw [List.mem_singleton.mp hz]; exact htg (.classLink RL 19 "java/lang/IndexOutOfBoundsException") (gw_t (tin5 (List.mem_of_getElem? (i := 87) rfl)) rfl), hNC 1 (by decide) (by decide) 2 (by decide) (by decide) (by decide)⟩) (by decide) (by decide) (htg (.classLink RL 13 "java/lang/IllegalArgumentException") (gw_t (tin5 (List.mem_of_getElem? (i := 8) rfl)) rfl)) (va_Nw.use rfl (hV.1 _ (List.mem_filter.mpr ⟨(tin5 (List.mem_of_getElem? (i := 18) rfl)), rfl⟩))) hce hcv hcl ?_
      refine lv_astore (lv' := [(6, .ref q9), (0, .ref (ad 0 0)), (1, .int p1), (2, .int p2), (3, .int p3), (4, .int p4), (5, .ref o)]) hx hb dL_layBed_21 hl (by decide) rfl (fun ls hl => ?_)
      refine lv_iconst (v := 2) hx hb dL_layBed_23 (by decide) ?_
      refine vx_ret ?_
      exact W.iret (v := 2) hx hb hr (fun t ht hW => ⟨⟨2, (), rfl, Or.inr ⟨1, by rw [h]; rfl, hu0, rfl⟩, by rw [ht]; exact hB, f, by rw [ht]; exact ho1, fun e => absurd e hu0⟩, hS.F ht⟩) hS.2.2 dL_layBed_24
    · rw [h] at hE
      cases hE
      refine vx_catch hown [_, _] _ _ htab (fun z hz => (List.mem_cons.mp hz).elim (fun e9 => Or.inr ⟨by subst e9; decide, "java/lang/IndexOutOfBoundsException", by subst e9; exact htg (.classLink RL 19 "java/lang/IndexOutOfBoundsException") (gw_t (tin5 (List.mem_of_getElem? (i := 87) rfl)) rfl), hNC 3 (by decide) (by decide) 2 (by decide) (by decide) (by decide)⟩) (fun hz => (fun e9 => Or.inr ⟨by subst e9; decide, "java/lang/IllegalArgumentException", by subst e9; exact htg (.classLink RL 13 "java/lang/IllegalArgumentException") (gw_t (tin5 (List.mem_of_getElem? (i := 8) rfl)) rfl), hNC 3 (by decide) (by decide) 1 (by decide) (by decide) (by decide)⟩) (List.mem_singleton.mp hz))) (by decide) (by decide) (htg (.classLink RL 28 "java/lang/IllegalStateException") (gw_t (tin5 (List.mem_of_getElem? (i := 126) rfl)) rfl)) (va_Nw.use rfl (hV.1 _ (List.mem_filter.mpr ⟨(tin5 (List.mem_of_getElem? (i := 137) rfl)), rfl⟩))) hce hcv hcl ?_
      refine lv_astore (lv' := [(6, .ref q9), (0, .ref (ad 0 0)), (1, .int p1), (2, .int p2), (3, .int p3), (4, .int p4), (5, .ref o)]) hx hb dL_layBed_25 hl (by decide) rfl (fun ls hl => ?_)
      refine lv_iconst (v := 3) hx hb dL_layBed_27 (by decide) ?_
      refine vx_ret ?_
      exact W.iret (v := 3) hx hb hr (fun t ht hW => ⟨⟨3, (), rfl, Or.inr ⟨2, by rw [h]; rfl, hu0, rfl⟩, by rw [ht]; exact hB, f, by rw [ht]; exact ho1, fun e => absurd e hu0⟩, hS.F ht⟩) hS.2.2 dL_layBed_28
  · obtain ⟨hq0, rfl⟩ := hw
    rw [ht] at hB
    have ho1 := hf.kept (hk1 o hf.lt ho)
    refine lv_i2l hx hb dL_layBed_12 rfl ?_
    refine W.last hx hb ho1 ((hK.2 5 _ rfl).1 1 (fun j => .long (f j))) (fun q => by cases q) (by show ¬ ((0 : Int32) < 0 ∨ (arrV _ _ _).slots.size ≤ _); rw [arrV_size]; exact (by unfold vp_in; decide : vp_in 0 1)) rfl rfl dL_layBed_13 fun H2 e2 z oq => ?_
    have hno : ∀ g c, dX g c → ad g c ≠ o := fun g c hd e => ho ⟨g, c, hd, e.symm⟩
    have hP2 : PX SX Γ ad q.2.2 H2 := fun g c hd => (hB g c hd).kept (oq _ (hno g c hd))
    have ho2 : va_at Γ.1 vwCl (oC Γ o (vp_updL f 0 q.2.1.toInt64)) H2 := out_put e2
    have hS2 := hS.put (k := (0 : Int32).toNatClampNeg) z oq (Or.inr rfl : (fun z => AXs ad z ∨ z = o) o)
    refine W.eq (g2 := F0 m 14 ls []) rfl ?_
    refine lv_goto (tgt := 29) hx hb dL_layBed_14 (by decide) ?_
    refine lv_iconst (v := 0) hx hb dL_layBed_29 (by decide) ?_
    refine W.widen (k := 5) (n := 30) (Nat.le_of_ble_eq_true rfl) (Nat.le_of_ble_eq_true rfl) ?_
    refine vx_ret ?_
    exact W.iret (v := 0) hx hb hr (fun t ht hW => ⟨⟨0, (), rfl, Or.inl ⟨hq0, rfl⟩, by rw [ht]; exact hP2, _, by rw [ht]; exact ho2, fun _ => by unfold vp_updL; exact if_pos rfl⟩, hS2.F ht⟩) hS2.2.2 dL_layBed_30
theorem mwL_30 : MWv RL 30 yX11_setPeacocks cX11_setPeacocks 3 (some .int) 2 := ⟨gw_t (tin5 (List.mem_of_getElem? (i := 155) rfl)) rfl, gw_t (tin5 (List.mem_of_getElem? (i := 156) rfl)) rfl, gw_t (tin5 (List.mem_of_getElem? (i := 157) rfl)) rfl, gw_t (tin1 (List.mem_of_getElem? (i := 1) rfl)) rfl, gw_t (tin5 (List.mem_of_getElem? (i := 158) rfl)) rfl, by decide, by decide, by decide +kernel⟩
set_option maxHeartbeats 4000000 in
set_option maxRecDepth 100000 in
theorem wL_setPeacocks (l : Launch) (hst : l.stackTraces = false) (Γ : Wc) (ad : Nat → Nat → Nat) (o : Nat) (p1 p2 : Int32) (σ : Sig) (q : Xe) (hF : f11_setPeacocks p1 p2 σ = some q) (hq : q.1 = 0 ∨ q.1 = 1) : MWr l Γ ad o yL_setPeacocks cL_setPeacocks 5 [(0, 10, 13, 13)] 8 134 2 [.ref (ad 0 0), .int p1, .int p2, .ref o] σ q [1] := by
  refine vx_ofWH (by decide) rfl ?_
  intro p e s m args below meth c s₁ B hml hv
  obtain ⟨rfl, ⟨hP, hK, hA, hZ, hV⟩, ⟨f, hf⟩, ho, hNC⟩ := hv
  have hx := B.exec
  have hb := B.bytes
  have hr := B.returns
  have hnl := B.notSynchronized
  have hts := atoms_spec (ws := .codeWith yL_setPeacocks cL_setPeacocks 5 (some .int) [(0, 10, 13, 13)] :: gw) B.pre
  have htg : ∀ w ∈ gw, w.before _ s = true := fun w h => hts w (List.mem_cons_of_mem _ h)
  have hown : s.vm.findClass RL = some m.cls := findClass_of_methodNamed B.named
  have htab := vx_table (x := yL_setPeacocks) B (hts _ List.mem_cons_self)
  have cx : CX SX Γ ad (AXs ad) RL cL_setPeacocks 5 p s m _ c := ⟨hx, hb, hml, hown, htg, hK, hA, hZ, hV⟩
  have hPS : PS SX Γ ad (AXs ad) s σ s.heap [] := ⟨hP, va_S.rf⟩
  have hS : va_S (fun z => AXs ad z ∨ z = o) s.heap s.heap [] := va_S.rf
  have hl := lv_entry ([.ref (ad 0 0), .int p1, .int p2, .ref o]) (n := 5) (Nat.le_of_ble_eq_true rfl)
  rw [lg_entry_eq]
  generalize (lg_sl ([.ref (ad 0 0), .int p1, .int p2, .ref o]) ++ List.replicate (5 - (lg_sl ([.ref (ad 0 0), .int p1, .int p2, .ref o])).length) Slot.unset).toArray = ls at hl ⊢
  have hl : lv_has ls 5 [(0, .ref (ad 0 0)), (1, .int p1), (2, .int p2), (3, .ref o)] := hl
  refine lv_aload_n hx hb dL_setPeacocks_0 rfl (lv_at hl 3 rfl) ?_
  refine lv_iconst (v := 0) hx hb dL_setPeacocks_1 (by decide) ?_
  refine lv_aload_n hx hb dL_setPeacocks_2 rfl (lv_at hl 0 rfl) ?_
  refine lv_iload_n hx hb dL_setPeacocks_3 rfl (lv_at hl 1 rfl) ?_
  refine lv_iload_n hx hb dL_setPeacocks_4 rfl (lv_at hl 2 rfl) ?_
  refine vx_calli (vx_runV (As := [.int p1, .int p2]) (rest := [.int 0, .ref o]) (fixOf cx) (w11_setPeacocks l hst Γ ad (AXs ad) p1 p2 σ q hF) (mwL_30.callB cx ⟨Nat.le_of_ble_eq_true rfl, Nat.le_of_ble_eq_true rfl⟩) ⟨Pre.blind, recvOf cx hPS (dXr (by decide)) rfl rfl, fun U hU hW => ⟨rfl, cx.pre hPS hU hW⟩⟩ rfl rfl hl.1 rfl (lv_room (Nat.le_of_ble_eq_true rfl)) dL_setPeacocks_5 ⟨Nat.le_of_ble_eq_true rfl, Nat.le_of_ble_eq_true rfl⟩) hS (fun q _ h => Or.inl h) (fun q h => Or.inl h) (fun q _ h => Or.inl h) (fun E ce q9 u t H1 locs1 ht hvm hu hb' hz hf' hS hce hcv hcl => ?_) (fun r u t H1 locs1 ht hvm hw hB hz1 hk1 hS => ?_)
  · have ho1 := hf.kept (by rw [hf' o hf.lt ho])
    obtain ⟨hE, hB⟩ := hb'
    rw [ht] at hB
    have hu0 : q.1 ≠ 0 := hu
    refine vx_widen (k := 2) (n := 12) (Nat.le_of_ble_eq_true rfl) (Nat.le_of_ble_eq_true rfl) ?_
    rcases hq with h | h
    · exact absurd h hu0
    · rw [h] at hE
      cases hE
      refine vx_catch hown [] _ _ htab (fun z hz => nomatch hz) (by decide) (by decide) (htg (.classLink RL 13 "java/lang/IllegalArgumentException") (gw_t (tin5 (List.mem_of_getElem? (i := 8) rfl)) rfl)) (va_Nw.use rfl (hV.1 _ (List.mem_filter.mpr ⟨(tin5 (List.mem_of_getElem? (i := 18) rfl)), rfl⟩))) hce hcv hcl ?_
      refine lv_astore (lv' := [(4, .ref q9), (0, .ref (ad 0 0)), (1, .int p1), (2, .int p2), (3, .ref o)]) hx hb dL_setPeacocks_13 hl (by decide) rfl (fun ls hl => ?_)
      refine lv_iconst (v := 1) hx hb dL_setPeacocks_15 (by decide) ?_
      refine vx_ret ?_
      exact W.iret (v := 1) hx hb hr (fun t ht hW => ⟨⟨1, (), rfl, Or.inr ⟨0, by rw [h]; rfl, hu0, rfl⟩, by rw [ht]; exact hB, f, by rw [ht]; exact ho1, fun e => absurd e hu0⟩, hS.F ht⟩) hS.2.2 dL_setPeacocks_16
  · obtain ⟨hq0, rfl⟩ := hw
    rw [ht] at hB
    have ho1 := hf.kept (hk1 o hf.lt ho)
    refine lv_i2l hx hb dL_setPeacocks_8 rfl ?_
    refine W.last hx hb ho1 ((hK.2 5 _ rfl).1 1 (fun j => .long (f j))) (fun q => by cases q) (by show ¬ ((0 : Int32) < 0 ∨ (arrV _ _ _).slots.size ≤ _); rw [arrV_size]; exact (by unfold vp_in; decide : vp_in 0 1)) rfl rfl dL_setPeacocks_9 fun H2 e2 z oq => ?_
    have hno : ∀ g c, dX g c → ad g c ≠ o := fun g c hd e => ho ⟨g, c, hd, e.symm⟩
    have hP2 : PX SX Γ ad q.2.2 H2 := fun g c hd => (hB g c hd).kept (oq _ (hno g c hd))
    have ho2 : va_at Γ.1 vwCl (oC Γ o (vp_updL f 0 q.2.1.toInt64)) H2 := out_put e2
    have hS2 := hS.put (k := (0 : Int32).toNatClampNeg) z oq (Or.inr rfl : (fun z => AXs ad z ∨ z = o) o)
    refine W.eq (g2 := F0 m 10 ls []) rfl ?_
    refine lv_goto (tgt := 17) hx hb dL_setPeacocks_10 (by decide) ?_
    refine lv_iconst (v := 0) hx hb dL_setPeacocks_17 (by decide) ?_
    refine W.widen (k := 2) (n := 12) (Nat.le_of_ble_eq_true rfl) (Nat.le_of_ble_eq_true rfl) ?_
    refine vx_ret ?_
    exact W.iret (v := 0) hx hb hr (fun t ht hW => ⟨⟨0, (), rfl, Or.inl ⟨hq0, rfl⟩, by rw [ht]; exact hP2, _, by rw [ht]; exact ho2, fun _ => by unfold vp_updL; exact if_pos rfl⟩, hS2.F ht⟩) hS2.2.2 dL_setPeacocks_18
theorem mwL_33 : MWv RL 33 yX11_setPause cX11_setPause 3 (some .int) 1 := ⟨gw_t (tin5 (List.mem_of_getElem? (i := 167) rfl)) rfl, gw_t (tin5 (List.mem_of_getElem? (i := 168) rfl)) rfl, gw_t (tin5 (List.mem_of_getElem? (i := 169) rfl)) rfl, gw_t (tin1 (List.mem_of_getElem? (i := 1) rfl)) rfl, gw_t (tin5 (List.mem_of_getElem? (i := 170) rfl)) rfl, by decide, by decide, by decide +kernel⟩
set_option maxHeartbeats 4000000 in
set_option maxRecDepth 100000 in
theorem wL_setPause (l : Launch) (hst : l.stackTraces = false) (Γ : Wc) (ad : Nat → Nat → Nat) (o : Nat) (p1 : Int32) (σ : Sig) (q : Xe) (hF : f11_setPause p1 σ = some q) (hq : q.1 = 0 ∨ q.1 = 1) : MWr l Γ ad o yL_setPause cL_setPause 4 [(0, 9, 12, 13)] 8 134 1 [.ref (ad 0 0), .int p1, .ref o] σ q [1] := by
  refine vx_ofWH (by decide) rfl ?_
  intro p e s m args below meth c s₁ B hml hv
  obtain ⟨rfl, ⟨hP, hK, hA, hZ, hV⟩, ⟨f, hf⟩, ho, hNC⟩ := hv
  have hx := B.exec
  have hb := B.bytes
  have hr := B.returns
  have hnl := B.notSynchronized
  have hts := atoms_spec (ws := .codeWith yL_setPause cL_setPause 4 (some .int) [(0, 9, 12, 13)] :: gw) B.pre
  have htg : ∀ w ∈ gw, w.before _ s = true := fun w h => hts w (List.mem_cons_of_mem _ h)
  have hown : s.vm.findClass RL = some m.cls := findClass_of_methodNamed B.named
  have htab := vx_table (x := yL_setPause) B (hts _ List.mem_cons_self)
  have cx : CX SX Γ ad (AXs ad) RL cL_setPause 4 p s m _ c := ⟨hx, hb, hml, hown, htg, hK, hA, hZ, hV⟩
  have hPS : PS SX Γ ad (AXs ad) s σ s.heap [] := ⟨hP, va_S.rf⟩
  have hS : va_S (fun z => AXs ad z ∨ z = o) s.heap s.heap [] := va_S.rf
  have hl := lv_entry ([.ref (ad 0 0), .int p1, .ref o]) (n := 4) (Nat.le_of_ble_eq_true rfl)
  rw [lg_entry_eq]
  generalize (lg_sl ([.ref (ad 0 0), .int p1, .ref o]) ++ List.replicate (4 - (lg_sl ([.ref (ad 0 0), .int p1, .ref o])).length) Slot.unset).toArray = ls at hl ⊢
  have hl : lv_has ls 4 [(0, .ref (ad 0 0)), (1, .int p1), (2, .ref o)] := hl
  refine lv_aload_n hx hb dL_setPause_0 rfl (lv_at hl 2 rfl) ?_
  refine lv_iconst (v := 0) hx hb dL_setPause_1 (by decide) ?_
  refine lv_aload_n hx hb dL_setPause_2 rfl (lv_at hl 0 rfl) ?_
  refine lv_iload_n hx hb dL_setPause_3 rfl (lv_at hl 1 rfl) ?_
  refine vx_calli (vx_runV (As := [.int p1]) (rest := [.int 0, .ref o]) (fixOf cx) (w11_setPause l hst Γ ad (AXs ad) p1 σ q hF) (mwL_33.callB cx ⟨Nat.le_of_ble_eq_true rfl, Nat.le_of_ble_eq_true rfl⟩) ⟨Pre.blind, recvOf cx hPS (dXr (by decide)) rfl rfl, fun U hU hW => ⟨rfl, cx.pre hPS hU hW⟩⟩ rfl rfl hl.1 rfl (lv_room (Nat.le_of_ble_eq_true rfl)) dL_setPause_4 ⟨Nat.le_of_ble_eq_true rfl, Nat.le_of_ble_eq_true rfl⟩) hS (fun q _ h => Or.inl h) (fun q h => Or.inl h) (fun q _ h => Or.inl h) (fun E ce q9 u t H1 locs1 ht hvm hu hb' hz hf' hS hce hcv hcl => ?_) (fun r u t H1 locs1 ht hvm hw hB hz1 hk1 hS => ?_)
  · have ho1 := hf.kept (by rw [hf' o hf.lt ho])
    obtain ⟨hE, hB⟩ := hb'
    rw [ht] at hB
    have hu0 : q.1 ≠ 0 := hu
    refine vx_widen (k := 1) (n := 6) (Nat.le_of_ble_eq_true rfl) (Nat.le_of_ble_eq_true rfl) ?_
    rcases hq with h | h
    · exact absurd h hu0
    · rw [h] at hE
      cases hE
      refine vx_catch hown [] _ _ htab (fun z hz => nomatch hz) (by decide) (by decide) (htg (.classLink RL 13 "java/lang/IllegalArgumentException") (gw_t (tin5 (List.mem_of_getElem? (i := 8) rfl)) rfl)) (va_Nw.use rfl (hV.1 _ (List.mem_filter.mpr ⟨(tin5 (List.mem_of_getElem? (i := 18) rfl)), rfl⟩))) hce hcv hcl ?_
      refine lv_astore_n (lv' := [(3, .ref q9), (0, .ref (ad 0 0)), (1, .int p1), (2, .ref o)]) hx hb dL_setPause_12 rfl hl (by decide) rfl (fun ls hl => ?_)
      refine lv_iconst (v := 1) hx hb dL_setPause_13 (by decide) ?_
      refine vx_ret ?_
      exact W.iret (v := 1) hx hb hr (fun t ht hW => ⟨⟨1, (), rfl, Or.inr ⟨0, by rw [h]; rfl, hu0, rfl⟩, by rw [ht]; exact hB, f, by rw [ht]; exact ho1, fun e => absurd e hu0⟩, hS.F ht⟩) hS.2.2 dL_setPause_14
  · obtain ⟨hq0, rfl⟩ := hw
    rw [ht] at hB
    have ho1 := hf.kept (hk1 o hf.lt ho)
    refine lv_i2l hx hb dL_setPause_7 rfl ?_
    refine W.last hx hb ho1 ((hK.2 5 _ rfl).1 1 (fun j => .long (f j))) (fun q => by cases q) (by show ¬ ((0 : Int32) < 0 ∨ (arrV _ _ _).slots.size ≤ _); rw [arrV_size]; exact (by unfold vp_in; decide : vp_in 0 1)) rfl rfl dL_setPause_8 fun H2 e2 z oq => ?_
    have hno : ∀ g c, dX g c → ad g c ≠ o := fun g c hd e => ho ⟨g, c, hd, e.symm⟩
    have hP2 : PX SX Γ ad q.2.2 H2 := fun g c hd => (hB g c hd).kept (oq _ (hno g c hd))
    have ho2 : va_at Γ.1 vwCl (oC Γ o (vp_updL f 0 q.2.1.toInt64)) H2 := out_put e2
    have hS2 := hS.put (k := (0 : Int32).toNatClampNeg) z oq (Or.inr rfl : (fun z => AXs ad z ∨ z = o) o)
    refine W.eq (g2 := F0 m 9 ls []) rfl ?_
    refine lv_goto (tgt := 15) hx hb dL_setPause_9 (by decide) ?_
    refine lv_iconst (v := 0) hx hb dL_setPause_15 (by decide) ?_
    refine W.widen (k := 1) (n := 6) (Nat.le_of_ble_eq_true rfl) (Nat.le_of_ble_eq_true rfl) ?_
    refine vx_ret ?_
    exact W.iret (v := 0) hx hb hr (fun t ht hW => ⟨⟨0, (), rfl, Or.inl ⟨hq0, rfl⟩, by rw [ht]; exact hP2, _, by rw [ht]; exact ho2, fun _ => by unfold vp_updL; exact if_pos rfl⟩, hS2.F ht⟩) hS2.2.2 dL_setPause_16
theorem mwL_36 : MWv RL 36 yX11_sell cX11_sell 5 (some .int) 4 := ⟨gw_t (tin5 (List.mem_of_getElem? (i := 174) rfl)) rfl, gw_t (tin5 (List.mem_of_getElem? (i := 175) rfl)) rfl, gw_t (tin5 (List.mem_of_getElem? (i := 176) rfl)) rfl, gw_t (tin1 (List.mem_of_getElem? (i := 1) rfl)) rfl, gw_t (tin5 (List.mem_of_getElem? (i := 177) rfl)) rfl, by decide, by decide, by decide +kernel⟩
set_option maxHeartbeats 4000000 in
set_option maxRecDepth 100000 in
theorem wL_sell (l : Launch) (hst : l.stackTraces = false) (Γ : Wc) (ad : Nat → Nat → Nat) (o : Nat) (p1 p2 p3 p4 : Int32) (σ : Sig) (q : Xe) (hF : f11_sell p1 p2 p3 p4 σ = some q) (hq : q.1 = 0 ∨ q.1 = 1 ∨ q.1 = 3) : MWr l Γ ad o yL_sell cL_sell 7 [(0, 14, 17, 13), (0, 14, 21, 28)] 9 157 5 [.ref (ad 0 0), .int p1, .int p2, .int p3, .int p4, .ref o] σ q [1, 3] := by
  refine vx_ofWH (by decide) rfl ?_
  intro p e s m args below meth c s₁ B hml hv
  obtain ⟨rfl, ⟨hP, hK, hA, hZ, hV⟩, ⟨f, hf⟩, ho, hNC⟩ := hv
  have hx := B.exec
  have hb := B.bytes
  have hr := B.returns
  have hnl := B.notSynchronized
  have hts := atoms_spec (ws := .codeWith yL_sell cL_sell 7 (some .int) [(0, 14, 17, 13), (0, 14, 21, 28)] :: gw) B.pre
  have htg : ∀ w ∈ gw, w.before _ s = true := fun w h => hts w (List.mem_cons_of_mem _ h)
  have hown : s.vm.findClass RL = some m.cls := findClass_of_methodNamed B.named
  have htab := vx_table (x := yL_sell) B (hts _ List.mem_cons_self)
  have cx : CX SX Γ ad (AXs ad) RL cL_sell 7 p s m _ c := ⟨hx, hb, hml, hown, htg, hK, hA, hZ, hV⟩
  have hPS : PS SX Γ ad (AXs ad) s σ s.heap [] := ⟨hP, va_S.rf⟩
  have hS : va_S (fun z => AXs ad z ∨ z = o) s.heap s.heap [] := va_S.rf
  have hl := lv_entry ([.ref (ad 0 0), .int p1, .int p2, .int p3, .int p4, .ref o]) (n := 7) (Nat.le_of_ble_eq_true rfl)
  rw [lg_entry_eq]
  generalize (lg_sl ([.ref (ad 0 0), .int p1, .int p2, .int p3, .int p4, .ref o]) ++ List.replicate (7 - (lg_sl ([.ref (ad 0 0), .int p1, .int p2, .int p3, .int p4, .ref o])).length) Slot.unset).toArray = ls at hl ⊢
  have hl : lv_has ls 7 [(0, .ref (ad 0 0)), (1, .int p1), (2, .int p2), (3, .int p3), (4, .int p4), (5, .ref o)] := hl
  refine lv_aload hx hb dL_sell_0 (lv_at hl 5 rfl) ?_
  refine lv_iconst (v := 0) hx hb dL_sell_2 (by decide) ?_
  refine lv_aload_n hx hb dL_sell_3 rfl (lv_at hl 0 rfl) ?_
  refine lv_iload_n hx hb dL_sell_4 rfl (lv_at hl 1 rfl) ?_
  refine lv_iload_n hx hb dL_sell_5 rfl (lv_at hl 2 rfl) ?_
  refine lv_iload_n hx hb dL_sell_6 rfl (lv_at hl 3 rfl) ?_
  refine lv_iload hx hb dL_sell_7 (lv_at hl 4 rfl) ?_
  refine vx_calli (vx_runV (As := [.int p1, .int p2, .int p3, .int p4]) (rest := [.int 0, .ref o]) (fixOf cx) (w11_sell l hst Γ ad (AXs ad) p1 p2 p3 p4 σ q hF) (mwL_36.callB cx ⟨Nat.le_of_ble_eq_true rfl, Nat.le_of_ble_eq_true rfl⟩) ⟨Pre.blind, recvOf cx hPS (dXr (by decide)) rfl rfl, fun U hU hW => ⟨rfl, cx.pre hPS hU hW⟩⟩ rfl rfl hl.1 rfl (lv_room (Nat.le_of_ble_eq_true rfl)) dL_sell_9 ⟨Nat.le_of_ble_eq_true rfl, Nat.le_of_ble_eq_true rfl⟩) hS (fun q _ h => Or.inl h) (fun q h => Or.inl h) (fun q _ h => Or.inl h) (fun E ce q9 u t H1 locs1 ht hvm hu hb' hz hf' hS hce hcv hcl => ?_) (fun r u t H1 locs1 ht hvm hw hB hz1 hk1 hS => ?_)
  · have ho1 := hf.kept (by rw [hf' o hf.lt ho])
    obtain ⟨hE, hB⟩ := hb'
    rw [ht] at hB
    have hu0 : q.1 ≠ 0 := hu
    refine vx_widen (k := 5) (n := 30) (Nat.le_of_ble_eq_true rfl) (Nat.le_of_ble_eq_true rfl) ?_
    rcases hq with h | h | h
    · exact absurd h hu0
    · rw [h] at hE
      cases hE
      refine vx_catch hown [] _ _ htab (fun z hz => nomatch hz) (by decide) (by decide) (htg (.classLink RL 13 "java/lang/IllegalArgumentException") (gw_t (tin5 (List.mem_of_getElem? (i := 8) rfl)) rfl)) (va_Nw.use rfl (hV.1 _ (List.mem_filter.mpr ⟨(tin5 (List.mem_of_getElem? (i := 18) rfl)), rfl⟩))) hce hcv hcl ?_
      refine lv_astore (lv' := [(6, .ref q9), (0, .ref (ad 0 0)), (1, .int p1), (2, .int p2), (3, .int p3), (4, .int p4), (5, .ref o)]) hx hb dL_sell_17 hl (by decide) rfl (fun ls hl => ?_)
      refine lv_iconst (v := 1) hx hb dL_sell_19 (by decide) ?_
      refine vx_ret ?_
      exact W.iret (v := 1) hx hb hr (fun t ht hW => ⟨⟨1, (), rfl, Or.inr ⟨0, by rw [h]; rfl, hu0, rfl⟩, by rw [ht]; exact hB, f, by rw [ht]; exact ho1, fun e => absurd e hu0⟩, hS.F ht⟩) hS.2.2 dL_sell_20
    · rw [h] at hE
      cases hE
      refine vx_catch hown [_] _ _ htab (fun z hz => Or.inr ⟨by rw [List.mem_singleton.mp hz]; decide, "java/lang/IllegalArgumentException", by rw [List.mem_singleton.mp hz]; exact htg (.classLink RL 13 "java/lang/IllegalArgumentException") (gw_t (tin5 (List.mem_of_getElem? (i := 8) rfl)) rfl), hNC 3 (by decide) (by decide) 1 (by decide) (by decide) (by decide)⟩) (by decide) (by decide) (htg (.classLink RL 28 "java/lang/IllegalStateException") (gw_t (tin5 (List.mem_of_getElem? (i := 126) rfl)) rfl)) (va_Nw.use rfl (hV.1 _ (List.mem_filter.mpr ⟨(tin5 (List.mem_of_getElem? (i := 137) rfl)), rfl⟩))) hce hcv hcl ?_
      refine lv_astore (lv' := [(6, .ref q9), (0, .ref (ad 0 0)), (1, .int p1), (2, .int p2), (3, .int p3), (4, .int p4), (5, .ref o)]) hx hb dL_sell_21 hl (by decide) rfl (fun ls hl => ?_)
      refine lv_iconst (v := 2) hx hb dL_sell_23 (by decide) ?_
      refine vx_ret ?_
      exact W.iret (v := 2) hx hb hr (fun t ht hW => ⟨⟨2, (), rfl, Or.inr ⟨1, by rw [h]; rfl, hu0, rfl⟩, by rw [ht]; exact hB, f, by rw [ht]; exact ho1, fun e => absurd e hu0⟩, hS.F ht⟩) hS.2.2 dL_sell_24
  · obtain ⟨hq0, rfl⟩ := hw
    rw [ht] at hB
    have ho1 := hf.kept (hk1 o hf.lt ho)
    refine lv_i2l hx hb dL_sell_12 rfl ?_
    refine W.last hx hb ho1 ((hK.2 5 _ rfl).1 1 (fun j => .long (f j))) (fun q => by cases q) (by show ¬ ((0 : Int32) < 0 ∨ (arrV _ _ _).slots.size ≤ _); rw [arrV_size]; exact (by unfold vp_in; decide : vp_in 0 1)) rfl rfl dL_sell_13 fun H2 e2 z oq => ?_
    have hno : ∀ g c, dX g c → ad g c ≠ o := fun g c hd e => ho ⟨g, c, hd, e.symm⟩
    have hP2 : PX SX Γ ad q.2.2 H2 := fun g c hd => (hB g c hd).kept (oq _ (hno g c hd))
    have ho2 : va_at Γ.1 vwCl (oC Γ o (vp_updL f 0 q.2.1.toInt64)) H2 := out_put e2
    have hS2 := hS.put (k := (0 : Int32).toNatClampNeg) z oq (Or.inr rfl : (fun z => AXs ad z ∨ z = o) o)
    refine W.eq (g2 := F0 m 14 ls []) rfl ?_
    refine lv_goto (tgt := 25) hx hb dL_sell_14 (by decide) ?_
    refine lv_iconst (v := 0) hx hb dL_sell_25 (by decide) ?_
    refine W.widen (k := 5) (n := 30) (Nat.le_of_ble_eq_true rfl) (Nat.le_of_ble_eq_true rfl) ?_
    refine vx_ret ?_
    exact W.iret (v := 0) hx hb hr (fun t ht hW => ⟨⟨0, (), rfl, Or.inl ⟨hq0, rfl⟩, by rw [ht]; exact hP2, _, by rw [ht]; exact ho2, fun _ => by unfold vp_updL; exact if_pos rfl⟩, hS2.F ht⟩) hS2.2.2 dL_sell_26
theorem mwL_39 : MWv RL 39 yX11_extend cX11_extend 3 (some .int) 2 := ⟨gw_t (tin5 (List.mem_of_getElem? (i := 188) rfl)) rfl, gw_t (tin5 (List.mem_of_getElem? (i := 189) rfl)) rfl, gw_t (tin5 (List.mem_of_getElem? (i := 190) rfl)) rfl, gw_t (tin1 (List.mem_of_getElem? (i := 1) rfl)) rfl, gw_t (tin5 (List.mem_of_getElem? (i := 191) rfl)) rfl, by decide, by decide, by decide +kernel⟩
set_option maxHeartbeats 4000000 in
set_option maxRecDepth 100000 in
theorem wL_extend (l : Launch) (hst : l.stackTraces = false) (Γ : Wc) (ad : Nat → Nat → Nat) (o : Nat) (p1 p2 : Int32) (σ : Sig) (q : Xe) (hF : f11_extend p1 p2 σ = some q) (hq : q.1 = 0 ∨ q.1 = 2 ∨ q.1 = 1 ∨ q.1 = 3) : MWr l Γ ad o yL_extend cL_extend 5 [(0, 10, 13, 19), (0, 10, 17, 13), (0, 10, 21, 28)] 8 134 4 [.ref (ad 0 0), .int p1, .int p2, .ref o] σ q [2, 1, 3] := by
  refine vx_ofWH (by decide) rfl ?_
  intro p e s m args below meth c s₁ B hml hv
  obtain ⟨rfl, ⟨hP, hK, hA, hZ, hV⟩, ⟨f, hf⟩, ho, hNC⟩ := hv
  have hx := B.exec
  have hb := B.bytes
  have hr := B.returns
  have hnl := B.notSynchronized
  have hts := atoms_spec (ws := .codeWith yL_extend cL_extend 5 (some .int) [(0, 10, 13, 19), (0, 10, 17, 13), (0, 10, 21, 28)] :: gw) B.pre
  have htg : ∀ w ∈ gw, w.before _ s = true := fun w h => hts w (List.mem_cons_of_mem _ h)
  have hown : s.vm.findClass RL = some m.cls := findClass_of_methodNamed B.named
  have htab := vx_table (x := yL_extend) B (hts _ List.mem_cons_self)
  have cx : CX SX Γ ad (AXs ad) RL cL_extend 5 p s m _ c := ⟨hx, hb, hml, hown, htg, hK, hA, hZ, hV⟩
  have hPS : PS SX Γ ad (AXs ad) s σ s.heap [] := ⟨hP, va_S.rf⟩
  have hS : va_S (fun z => AXs ad z ∨ z = o) s.heap s.heap [] := va_S.rf
  have hl := lv_entry ([.ref (ad 0 0), .int p1, .int p2, .ref o]) (n := 5) (Nat.le_of_ble_eq_true rfl)
  rw [lg_entry_eq]
  generalize (lg_sl ([.ref (ad 0 0), .int p1, .int p2, .ref o]) ++ List.replicate (5 - (lg_sl ([.ref (ad 0 0), .int p1, .int p2, .ref o])).length) Slot.unset).toArray = ls at hl ⊢
  have hl : lv_has ls 5 [(0, .ref (ad 0 0)), (1, .int p1), (2, .int p2), (3, .ref o)] := hl
  refine lv_aload_n hx hb dL_extend_0 rfl (lv_at hl 3 rfl) ?_
  refine lv_iconst (v := 0) hx hb dL_extend_1 (by decide) ?_
  refine lv_aload_n hx hb dL_extend_2 rfl (lv_at hl 0 rfl) ?_
  refine lv_iload_n hx hb dL_extend_3 rfl (lv_at hl 1 rfl) ?_
  refine lv_iload_n hx hb dL_extend_4 rfl (lv_at hl 2 rfl) ?_
  refine vx_calli (vx_runV (As := [.int p1, .int p2]) (rest := [.int 0, .ref o]) (fixOf cx) (w11_extend l hst Γ ad (AXs ad) p1 p2 σ q hF) (mwL_39.callB cx ⟨Nat.le_of_ble_eq_true rfl, Nat.le_of_ble_eq_true rfl⟩) ⟨Pre.blind, recvOf cx hPS (dXr (by decide)) rfl rfl, fun U hU hW => ⟨rfl, cx.pre hPS hU hW⟩⟩ rfl rfl hl.1 rfl (lv_room (Nat.le_of_ble_eq_true rfl)) dL_extend_5 ⟨Nat.le_of_ble_eq_true rfl, Nat.le_of_ble_eq_true rfl⟩) hS (fun q _ h => Or.inl h) (fun q h => Or.inl h) (fun q _ h => Or.inl h) (fun E ce q9 u t H1 locs1 ht hvm hu hb' hz hf' hS hce hcv hcl => ?_) (fun r u t H1 locs1 ht hvm hw hB hz1 hk1 hS => ?_)
  · have ho1 := hf.kept (by rw [hf' o hf.lt ho])
    obtain ⟨hE, hB⟩ := hb'
    rw [ht] at hB
    have hu0 : q.1 ≠ 0 := hu
    refine vx_widen (k := 4) (n := 24) (Nat.le_of_ble_eq_true rfl) (Nat.le_of_ble_eq_true rfl) ?_
    rcases hq with h | h | h | h
    · exact absurd h hu0
    · rw [h] at hE
      cases hE
      refine vx_catch hown [] _ _ htab (fun z hz => nomatch hz) (by decide) (by decide) (htg (.classLink RL 19 "java/lang/IndexOutOfBoundsException") (gw_t (tin5 (List.mem_of_getElem? (i := 87) rfl)) rfl)) (va_Nw.use rfl (hV.1 _ (List.mem_filter.mpr ⟨(tin5 (List.mem_of_getElem? (i := 102) rfl)), rfl⟩))) hce hcv hcl ?_
      refine lv_astore (lv' := [(4, .ref q9), (0, .ref (ad 0 0)), (1, .int p1), (2, .int p2), (3, .ref o)]) hx hb dL_extend_13 hl (by decide) rfl (fun ls hl => ?_)
      refine lv_iconst (v := 1) hx hb dL_extend_15 (by decide) ?_
      refine vx_ret ?_
      exact W.iret (v := 1) hx hb hr (fun t ht hW => ⟨⟨1, (), rfl, Or.inr ⟨0, by rw [h]; rfl, hu0, rfl⟩, by rw [ht]; exact hB, f, by rw [ht]; exact ho1, fun e => absurd e hu0⟩, hS.F ht⟩) hS.2.2 dL_extend_16
    · rw [h] at hE
      cases hE
      refine vx_catch hown [_] _ _ htab (fun z hz => Or.inr ⟨by rw [List.mem_singleton.mp hz]; decide, "java/lang/IndexOutOfBoundsException", by rw [List.mem_singleton.mp hz]; exact htg (.classLink RL 19 "java/lang/IndexOutOfBoundsException") (gw_t (tin5 (List.mem_of_getElem? (i := 87) rfl)) rfl), hNC 1 (by decide) (by decide) 2 (by decide) (by decide) (by decide)⟩) (by decide) (by decide) (htg (.classLink RL 13 "java/lang/IllegalArgumentException") (gw_t (tin5 (List.mem_of_getElem? (i := 8) rfl)) rfl)) (va_Nw.use rfl (hV.1 _ (List.mem_filter.mpr ⟨(tin5 (List.mem_of_getElem? (i := 18) rfl)), rfl⟩))) hce hcv hcl ?_
      refine lv_astore (lv' := [(4, .ref q9), (0, .ref (ad 0 0)), (1, .int p1), (2, .int p2), (3, .ref o)]) hx hb dL_extend_17 hl (by decide) rfl (fun ls hl => ?_)
      refine lv_iconst (v := 2) hx hb dL_extend_19 (by decide) ?_
      refine vx_ret ?_
      exact W.iret (v := 2) hx hb hr (fun t ht hW => ⟨⟨2, (), rfl, Or.inr ⟨1, by rw [h]; rfl, hu0, rfl⟩, by rw [ht]; exact hB, f, by rw [ht]; exact ho1, fun e => absurd e hu0⟩, hS.F ht⟩) hS.2.2 dL_extend_20
    · rw [h] at hE
      cases hE
      refine vx_catch hown [_, _] _ _ htab (fun z hz => (List.mem_cons.mp hz).elim (fun e9 => Or.inr ⟨by subst e9; decide, "java/lang/IndexOutOfBoundsException", by subst e9; exact htg (.classLink RL 19 "java/lang/IndexOutOfBoundsException") (gw_t (tin5 (List.mem_of_getElem? (i := 87) rfl)) rfl), hNC 3 (by decide) (by decide) 2 (by decide) (by decide) (by decide)⟩) (fun hz => (fun e9 => Or.inr ⟨by subst e9; decide, "java/lang/IllegalArgumentException", by subst e9; exact htg (.classLink RL 13 "java/lang/IllegalArgumentException") (gw_t (tin5 (List.mem_of_getElem? (i := 8) rfl)) rfl), hNC 3 (by decide) (by decide) 1 (by decide) (by decide) (by decide)⟩) (List.mem_singleton.mp hz))) (by decide) (by decide) (htg (.classLink RL 28 "java/lang/IllegalStateException") (gw_t (tin5 (List.mem_of_getElem? (i := 126) rfl)) rfl)) (va_Nw.use rfl (hV.1 _ (List.mem_filter.mpr ⟨(tin5 (List.mem_of_getElem? (i := 137) rfl)), rfl⟩))) hce hcv hcl ?_
      refine lv_astore (lv' := [(4, .ref q9), (0, .ref (ad 0 0)), (1, .int p1), (2, .int p2), (3, .ref o)]) hx hb dL_extend_21 hl (by decide) rfl (fun ls hl => ?_)
      refine lv_iconst (v := 3) hx hb dL_extend_23 (by decide) ?_
      refine vx_ret ?_
      exact W.iret (v := 3) hx hb hr (fun t ht hW => ⟨⟨3, (), rfl, Or.inr ⟨2, by rw [h]; rfl, hu0, rfl⟩, by rw [ht]; exact hB, f, by rw [ht]; exact ho1, fun e => absurd e hu0⟩, hS.F ht⟩) hS.2.2 dL_extend_24
  · obtain ⟨hq0, rfl⟩ := hw
    rw [ht] at hB
    have ho1 := hf.kept (hk1 o hf.lt ho)
    refine lv_i2l hx hb dL_extend_8 rfl ?_
    refine W.last hx hb ho1 ((hK.2 5 _ rfl).1 1 (fun j => .long (f j))) (fun q => by cases q) (by show ¬ ((0 : Int32) < 0 ∨ (arrV _ _ _).slots.size ≤ _); rw [arrV_size]; exact (by unfold vp_in; decide : vp_in 0 1)) rfl rfl dL_extend_9 fun H2 e2 z oq => ?_
    have hno : ∀ g c, dX g c → ad g c ≠ o := fun g c hd e => ho ⟨g, c, hd, e.symm⟩
    have hP2 : PX SX Γ ad q.2.2 H2 := fun g c hd => (hB g c hd).kept (oq _ (hno g c hd))
    have ho2 : va_at Γ.1 vwCl (oC Γ o (vp_updL f 0 q.2.1.toInt64)) H2 := out_put e2
    have hS2 := hS.put (k := (0 : Int32).toNatClampNeg) z oq (Or.inr rfl : (fun z => AXs ad z ∨ z = o) o)
    refine W.eq (g2 := F0 m 10 ls []) rfl ?_
    refine lv_goto (tgt := 25) hx hb dL_extend_10 (by decide) ?_
    refine lv_iconst (v := 0) hx hb dL_extend_25 (by decide) ?_
    refine W.widen (k := 4) (n := 24) (Nat.le_of_ble_eq_true rfl) (Nat.le_of_ble_eq_true rfl) ?_
    refine vx_ret ?_
    exact W.iret (v := 0) hx hb hr (fun t ht hW => ⟨⟨0, (), rfl, Or.inl ⟨hq0, rfl⟩, by rw [ht]; exact hP2, _, by rw [ht]; exact ho2, fun _ => by unfold vp_updL; exact if_pos rfl⟩, hS2.F ht⟩) hS2.2.2 dL_extend_26
theorem mwL_42 : MWv RL 42 yX11_addScent cX11_addScent 3 (some .int) 2 := ⟨gw_t (tin5 (List.mem_of_getElem? (i := 217) rfl)) rfl, gw_t (tin5 (List.mem_of_getElem? (i := 218) rfl)) rfl, gw_t (tin5 (List.mem_of_getElem? (i := 219) rfl)) rfl, gw_t (tin1 (List.mem_of_getElem? (i := 1) rfl)) rfl, gw_t (tin5 (List.mem_of_getElem? (i := 220) rfl)) rfl, by decide, by decide, by decide +kernel⟩
set_option maxHeartbeats 4000000 in
set_option maxRecDepth 100000 in
theorem wL_addScent (l : Launch) (hst : l.stackTraces = false) (Γ : Wc) (ad : Nat → Nat → Nat) (o : Nat) (p1 p2 : Int32) (σ : Sig) (q : Xe) (hF : f11_addScent p1 p2 σ = some q) (hq : q.1 = 0 ∨ q.1 = 2 ∨ q.1 = 3) : MWr l Γ ad o yL_addScent cL_addScent 5 [(0, 10, 13, 19), (0, 10, 17, 28)] 8 133 4 [.ref (ad 0 0), .int p1, .int p2, .ref o] σ q [2, 3] := by
  refine vx_ofWH (by decide) rfl ?_
  intro p e s m args below meth c s₁ B hml hv
  obtain ⟨rfl, ⟨hP, hK, hA, hZ, hV⟩, ⟨f, hf⟩, ho, hNC⟩ := hv
  have hx := B.exec
  have hb := B.bytes
  have hr := B.returns
  have hnl := B.notSynchronized
  have hts := atoms_spec (ws := .codeWith yL_addScent cL_addScent 5 (some .int) [(0, 10, 13, 19), (0, 10, 17, 28)] :: gw) B.pre
  have htg : ∀ w ∈ gw, w.before _ s = true := fun w h => hts w (List.mem_cons_of_mem _ h)
  have hown : s.vm.findClass RL = some m.cls := findClass_of_methodNamed B.named
  have htab := vx_table (x := yL_addScent) B (hts _ List.mem_cons_self)
  have cx : CX SX Γ ad (AXs ad) RL cL_addScent 5 p s m _ c := ⟨hx, hb, hml, hown, htg, hK, hA, hZ, hV⟩
  have hPS : PS SX Γ ad (AXs ad) s σ s.heap [] := ⟨hP, va_S.rf⟩
  have hS : va_S (fun z => AXs ad z ∨ z = o) s.heap s.heap [] := va_S.rf
  have hl := lv_entry ([.ref (ad 0 0), .int p1, .int p2, .ref o]) (n := 5) (Nat.le_of_ble_eq_true rfl)
  rw [lg_entry_eq]
  generalize (lg_sl ([.ref (ad 0 0), .int p1, .int p2, .ref o]) ++ List.replicate (5 - (lg_sl ([.ref (ad 0 0), .int p1, .int p2, .ref o])).length) Slot.unset).toArray = ls at hl ⊢
  have hl : lv_has ls 5 [(0, .ref (ad 0 0)), (1, .int p1), (2, .int p2), (3, .ref o)] := hl
  refine lv_aload_n hx hb dL_addScent_0 rfl (lv_at hl 3 rfl) ?_
  refine lv_iconst (v := 0) hx hb dL_addScent_1 (by decide) ?_
  refine lv_aload_n hx hb dL_addScent_2 rfl (lv_at hl 0 rfl) ?_
  refine lv_iload_n hx hb dL_addScent_3 rfl (lv_at hl 1 rfl) ?_
  refine lv_iload_n hx hb dL_addScent_4 rfl (lv_at hl 2 rfl) ?_
  refine vx_calli (vx_runV (As := [.int p1, .int p2]) (rest := [.int 0, .ref o]) (fixOf cx) (w11_addScent l hst Γ ad (AXs ad) p1 p2 σ q hF) (mwL_42.callB cx ⟨Nat.le_of_ble_eq_true rfl, Nat.le_of_ble_eq_true rfl⟩) ⟨Pre.blind, recvOf cx hPS (dXr (by decide)) rfl rfl, fun U hU hW => ⟨rfl, cx.pre hPS hU hW⟩⟩ rfl rfl hl.1 rfl (lv_room (Nat.le_of_ble_eq_true rfl)) dL_addScent_5 ⟨Nat.le_of_ble_eq_true rfl, Nat.le_of_ble_eq_true rfl⟩) hS (fun q _ h => Or.inl h) (fun q h => Or.inl h) (fun q _ h => Or.inl h) (fun E ce q9 u t H1 locs1 ht hvm hu hb' hz hf' hS hce hcv hcl => ?_) (fun r u t H1 locs1 ht hvm hw hB hz1 hk1 hS => ?_)
  · have ho1 := hf.kept (by rw [hf' o hf.lt ho])
    obtain ⟨hE, hB⟩ := hb'
    rw [ht] at hB
    have hu0 : q.1 ≠ 0 := hu
    refine vx_widen (k := 4) (n := 24) (Nat.le_of_ble_eq_true rfl) (Nat.le_of_ble_eq_true rfl) ?_
    rcases hq with h | h | h
    · exact absurd h hu0
    · rw [h] at hE
      cases hE
      refine vx_catch hown [] _ _ htab (fun z hz => nomatch hz) (by decide) (by decide) (htg (.classLink RL 19 "java/lang/IndexOutOfBoundsException") (gw_t (tin5 (List.mem_of_getElem? (i := 87) rfl)) rfl)) (va_Nw.use rfl (hV.1 _ (List.mem_filter.mpr ⟨(tin5 (List.mem_of_getElem? (i := 102) rfl)), rfl⟩))) hce hcv hcl ?_
      refine lv_astore (lv' := [(4, .ref q9), (0, .ref (ad 0 0)), (1, .int p1), (2, .int p2), (3, .ref o)]) hx hb dL_addScent_13 hl (by decide) rfl (fun ls hl => ?_)
      refine lv_iconst (v := 1) hx hb dL_addScent_15 (by decide) ?_
      refine vx_ret ?_
      exact W.iret (v := 1) hx hb hr (fun t ht hW => ⟨⟨1, (), rfl, Or.inr ⟨0, by rw [h]; rfl, hu0, rfl⟩, by rw [ht]; exact hB, f, by rw [ht]; exact ho1, fun e => absurd e hu0⟩, hS.F ht⟩) hS.2.2 dL_addScent_16
    · rw [h] at hE
      cases hE
      refine vx_catch hown [_] _ _ htab (fun z hz => Or.inr ⟨by rw [List.mem_singleton.mp hz]; decide, "java/lang/IndexOutOfBoundsException", by rw [List.mem_singleton.mp hz]; exact htg (.classLink RL 19 "java/lang/IndexOutOfBoundsException") (gw_t (tin5 (List.mem_of_getElem? (i := 87) rfl)) rfl), hNC 3 (by decide) (by decide) 2 (by decide) (by decide) (by decide)⟩) (by decide) (by decide) (htg (.classLink RL 28 "java/lang/IllegalStateException") (gw_t (tin5 (List.mem_of_getElem? (i := 126) rfl)) rfl)) (va_Nw.use rfl (hV.1 _ (List.mem_filter.mpr ⟨(tin5 (List.mem_of_getElem? (i := 137) rfl)), rfl⟩))) hce hcv hcl ?_
      refine lv_astore (lv' := [(4, .ref q9), (0, .ref (ad 0 0)), (1, .int p1), (2, .int p2), (3, .ref o)]) hx hb dL_addScent_17 hl (by decide) rfl (fun ls hl => ?_)
      refine lv_iconst (v := 2) hx hb dL_addScent_19 (by decide) ?_
      refine vx_ret ?_
      exact W.iret (v := 2) hx hb hr (fun t ht hW => ⟨⟨2, (), rfl, Or.inr ⟨1, by rw [h]; rfl, hu0, rfl⟩, by rw [ht]; exact hB, f, by rw [ht]; exact ho1, fun e => absurd e hu0⟩, hS.F ht⟩) hS.2.2 dL_addScent_20
  · obtain ⟨hq0, rfl⟩ := hw
    rw [ht] at hB
    have ho1 := hf.kept (hk1 o hf.lt ho)
    refine lv_i2l hx hb dL_addScent_8 rfl ?_
    refine W.last hx hb ho1 ((hK.2 5 _ rfl).1 1 (fun j => .long (f j))) (fun q => by cases q) (by show ¬ ((0 : Int32) < 0 ∨ (arrV _ _ _).slots.size ≤ _); rw [arrV_size]; exact (by unfold vp_in; decide : vp_in 0 1)) rfl rfl dL_addScent_9 fun H2 e2 z oq => ?_
    have hno : ∀ g c, dX g c → ad g c ≠ o := fun g c hd e => ho ⟨g, c, hd, e.symm⟩
    have hP2 : PX SX Γ ad q.2.2 H2 := fun g c hd => (hB g c hd).kept (oq _ (hno g c hd))
    have ho2 : va_at Γ.1 vwCl (oC Γ o (vp_updL f 0 q.2.1.toInt64)) H2 := out_put e2
    have hS2 := hS.put (k := (0 : Int32).toNatClampNeg) z oq (Or.inr rfl : (fun z => AXs ad z ∨ z = o) o)
    refine W.eq (g2 := F0 m 10 ls []) rfl ?_
    refine lv_goto (tgt := 21) hx hb dL_addScent_10 (by decide) ?_
    refine lv_iconst (v := 0) hx hb dL_addScent_21 (by decide) ?_
    refine W.widen (k := 4) (n := 24) (Nat.le_of_ble_eq_true rfl) (Nat.le_of_ble_eq_true rfl) ?_
    refine vx_ret ?_
    exact W.iret (v := 0) hx hb hr (fun t ht hW => ⟨⟨0, (), rfl, Or.inl ⟨hq0, rfl⟩, by rw [ht]; exact hP2, _, by rw [ht]; exact ho2, fun _ => by unfold vp_updL; exact if_pos rfl⟩, hS2.F ht⟩) hS2.2.2 dL_addScent_22
theorem mwL_45 : MWv RL 45 yX11_reportLost cX11_reportLost 2 (some .int) 1 := ⟨gw_t (tin5 (List.mem_of_getElem? (i := 225) rfl)) rfl, gw_t (tin5 (List.mem_of_getElem? (i := 226) rfl)) rfl, gw_t (tin5 (List.mem_of_getElem? (i := 227) rfl)) rfl, gw_t (tin1 (List.mem_of_getElem? (i := 1) rfl)) rfl, gw_t (tin5 (List.mem_of_getElem? (i := 228) rfl)) rfl, by decide, by decide, by decide +kernel⟩
set_option maxHeartbeats 4000000 in
set_option maxRecDepth 100000 in
theorem wL_reportLost (l : Launch) (hst : l.stackTraces = false) (Γ : Wc) (ad : Nat → Nat → Nat) (o : Nat) (p1 : Int32) (σ : Sig) (q : Xe) (hF : f11_reportLost p1 σ = some q) (hq : q.1 = 0 ∨ q.1 = 2 ∨ q.1 = 3) : MWr l Γ ad o yL_reportLost cL_reportLost 4 [(0, 9, 12, 19), (0, 9, 15, 28)] 8 132 2 [.ref (ad 0 0), .int p1, .ref o] σ q [2, 3] := by
  refine vx_ofWH (by decide) rfl ?_
  intro p e s m args below meth c s₁ B hml hv
  obtain ⟨rfl, ⟨hP, hK, hA, hZ, hV⟩, ⟨f, hf⟩, ho, hNC⟩ := hv
  have hx := B.exec
  have hb := B.bytes
  have hr := B.returns
  have hnl := B.notSynchronized
  have hts := atoms_spec (ws := .codeWith yL_reportLost cL_reportLost 4 (some .int) [(0, 9, 12, 19), (0, 9, 15, 28)] :: gw) B.pre
  have htg : ∀ w ∈ gw, w.before _ s = true := fun w h => hts w (List.mem_cons_of_mem _ h)
  have hown : s.vm.findClass RL = some m.cls := findClass_of_methodNamed B.named
  have htab := vx_table (x := yL_reportLost) B (hts _ List.mem_cons_self)
  have cx : CX SX Γ ad (AXs ad) RL cL_reportLost 4 p s m _ c := ⟨hx, hb, hml, hown, htg, hK, hA, hZ, hV⟩
  have hPS : PS SX Γ ad (AXs ad) s σ s.heap [] := ⟨hP, va_S.rf⟩
  have hS : va_S (fun z => AXs ad z ∨ z = o) s.heap s.heap [] := va_S.rf
  have hl := lv_entry ([.ref (ad 0 0), .int p1, .ref o]) (n := 4) (Nat.le_of_ble_eq_true rfl)
  rw [lg_entry_eq]
  generalize (lg_sl ([.ref (ad 0 0), .int p1, .ref o]) ++ List.replicate (4 - (lg_sl ([.ref (ad 0 0), .int p1, .ref o])).length) Slot.unset).toArray = ls at hl ⊢
  have hl : lv_has ls 4 [(0, .ref (ad 0 0)), (1, .int p1), (2, .ref o)] := hl
  refine lv_aload_n hx hb dL_reportLost_0 rfl (lv_at hl 2 rfl) ?_
  refine lv_iconst (v := 0) hx hb dL_reportLost_1 (by decide) ?_
  refine lv_aload_n hx hb dL_reportLost_2 rfl (lv_at hl 0 rfl) ?_
  refine lv_iload_n hx hb dL_reportLost_3 rfl (lv_at hl 1 rfl) ?_
  refine vx_calli (vx_runV (As := [.int p1]) (rest := [.int 0, .ref o]) (fixOf cx) (w11_reportLost l hst Γ ad (AXs ad) p1 σ q hF) (mwL_45.callB cx ⟨Nat.le_of_ble_eq_true rfl, Nat.le_of_ble_eq_true rfl⟩) ⟨Pre.blind, recvOf cx hPS (dXr (by decide)) rfl rfl, fun U hU hW => ⟨rfl, cx.pre hPS hU hW⟩⟩ rfl rfl hl.1 rfl (lv_room (Nat.le_of_ble_eq_true rfl)) dL_reportLost_4 ⟨Nat.le_of_ble_eq_true rfl, Nat.le_of_ble_eq_true rfl⟩) hS (fun q _ h => Or.inl h) (fun q h => Or.inl h) (fun q _ h => Or.inl h) (fun E ce q9 u t H1 locs1 ht hvm hu hb' hz hf' hS hce hcv hcl => ?_) (fun r u t H1 locs1 ht hvm hw hB hz1 hk1 hS => ?_)
  · have ho1 := hf.kept (by rw [hf' o hf.lt ho])
    obtain ⟨hE, hB⟩ := hb'
    rw [ht] at hB
    have hu0 : q.1 ≠ 0 := hu
    refine vx_widen (k := 2) (n := 12) (Nat.le_of_ble_eq_true rfl) (Nat.le_of_ble_eq_true rfl) ?_
    rcases hq with h | h | h
    · exact absurd h hu0
    · rw [h] at hE
      cases hE
      refine vx_catch hown [] _ _ htab (fun z hz => nomatch hz) (by decide) (by decide) (htg (.classLink RL 19 "java/lang/IndexOutOfBoundsException") (gw_t (tin5 (List.mem_of_getElem? (i := 87) rfl)) rfl)) (va_Nw.use rfl (hV.1 _ (List.mem_filter.mpr ⟨(tin5 (List.mem_of_getElem? (i := 102) rfl)), rfl⟩))) hce hcv hcl ?_
      refine lv_astore_n (lv' := [(3, .ref q9), (0, .ref (ad 0 0)), (1, .int p1), (2, .ref o)]) hx hb dL_reportLost_12 rfl hl (by decide) rfl (fun ls hl => ?_)
      refine lv_iconst (v := 1) hx hb dL_reportLost_13 (by decide) ?_
      refine vx_ret ?_
      exact W.iret (v := 1) hx hb hr (fun t ht hW => ⟨⟨1, (), rfl, Or.inr ⟨0, by rw [h]; rfl, hu0, rfl⟩, by rw [ht]; exact hB, f, by rw [ht]; exact ho1, fun e => absurd e hu0⟩, hS.F ht⟩) hS.2.2 dL_reportLost_14
    · rw [h] at hE
      cases hE
      refine vx_catch hown [_] _ _ htab (fun z hz => Or.inr ⟨by rw [List.mem_singleton.mp hz]; decide, "java/lang/IndexOutOfBoundsException", by rw [List.mem_singleton.mp hz]; exact htg (.classLink RL 19 "java/lang/IndexOutOfBoundsException") (gw_t (tin5 (List.mem_of_getElem? (i := 87) rfl)) rfl), hNC 3 (by decide) (by decide) 2 (by decide) (by decide) (by decide)⟩) (by decide) (by decide) (htg (.classLink RL 28 "java/lang/IllegalStateException") (gw_t (tin5 (List.mem_of_getElem? (i := 126) rfl)) rfl)) (va_Nw.use rfl (hV.1 _ (List.mem_filter.mpr ⟨(tin5 (List.mem_of_getElem? (i := 137) rfl)), rfl⟩))) hce hcv hcl ?_
      refine lv_astore_n (lv' := [(3, .ref q9), (0, .ref (ad 0 0)), (1, .int p1), (2, .ref o)]) hx hb dL_reportLost_15 rfl hl (by decide) rfl (fun ls hl => ?_)
      refine lv_iconst (v := 2) hx hb dL_reportLost_16 (by decide) ?_
      refine vx_ret ?_
      exact W.iret (v := 2) hx hb hr (fun t ht hW => ⟨⟨2, (), rfl, Or.inr ⟨1, by rw [h]; rfl, hu0, rfl⟩, by rw [ht]; exact hB, f, by rw [ht]; exact ho1, fun e => absurd e hu0⟩, hS.F ht⟩) hS.2.2 dL_reportLost_17
  · obtain ⟨hq0, rfl⟩ := hw
    rw [ht] at hB
    have ho1 := hf.kept (hk1 o hf.lt ho)
    refine lv_i2l hx hb dL_reportLost_7 rfl ?_
    refine W.last hx hb ho1 ((hK.2 5 _ rfl).1 1 (fun j => .long (f j))) (fun q => by cases q) (by show ¬ ((0 : Int32) < 0 ∨ (arrV _ _ _).slots.size ≤ _); rw [arrV_size]; exact (by unfold vp_in; decide : vp_in 0 1)) rfl rfl dL_reportLost_8 fun H2 e2 z oq => ?_
    have hno : ∀ g c, dX g c → ad g c ≠ o := fun g c hd e => ho ⟨g, c, hd, e.symm⟩
    have hP2 : PX SX Γ ad q.2.2 H2 := fun g c hd => (hB g c hd).kept (oq _ (hno g c hd))
    have ho2 : va_at Γ.1 vwCl (oC Γ o (vp_updL f 0 q.2.1.toInt64)) H2 := out_put e2
    have hS2 := hS.put (k := (0 : Int32).toNatClampNeg) z oq (Or.inr rfl : (fun z => AXs ad z ∨ z = o) o)
    refine W.eq (g2 := F0 m 9 ls []) rfl ?_
    refine lv_goto (tgt := 18) hx hb dL_reportLost_9 (by decide) ?_
    refine lv_iconst (v := 0) hx hb dL_reportLost_18 (by decide) ?_
    refine W.widen (k := 2) (n := 12) (Nat.le_of_ble_eq_true rfl) (Nat.le_of_ble_eq_true rfl) ?_
    refine vx_ret ?_
    exact W.iret (v := 0) hx hb hr (fun t ht hW => ⟨⟨0, (), rfl, Or.inl ⟨hq0, rfl⟩, by rw [ht]; exact hP2, _, by rw [ht]; exact ho2, fun _ => by unfold vp_updL; exact if_pos rfl⟩, hS2.F ht⟩) hS2.2.2 dL_reportLost_19
theorem mwL_48 : MWv RL 48 yX11_replaceCard cX11_replaceCard 2 (some .int) 1 := ⟨gw_t (tin5 (List.mem_of_getElem? (i := 234) rfl)) rfl, gw_t (tin5 (List.mem_of_getElem? (i := 235) rfl)) rfl, gw_t (tin5 (List.mem_of_getElem? (i := 236) rfl)) rfl, gw_t (tin1 (List.mem_of_getElem? (i := 1) rfl)) rfl, gw_t (tin5 (List.mem_of_getElem? (i := 237) rfl)) rfl, by decide, by decide, by decide +kernel⟩
set_option maxHeartbeats 4000000 in
set_option maxRecDepth 100000 in
theorem wL_replaceCard (l : Launch) (hst : l.stackTraces = false) (Γ : Wc) (ad : Nat → Nat → Nat) (o : Nat) (p1 : Int32) (σ : Sig) (q : Xe) (hF : f11_replaceCard p1 σ = some q) (hq : q.1 = 0 ∨ q.1 = 2 ∨ q.1 = 3) : MWr l Γ ad o yL_replaceCard cL_replaceCard 4 [(0, 9, 12, 19), (0, 9, 15, 28)] 8 132 2 [.ref (ad 0 0), .int p1, .ref o] σ q [2, 3] := by
  refine vx_ofWH (by decide) rfl ?_
  intro p e s m args below meth c s₁ B hml hv
  obtain ⟨rfl, ⟨hP, hK, hA, hZ, hV⟩, ⟨f, hf⟩, ho, hNC⟩ := hv
  have hx := B.exec
  have hb := B.bytes
  have hr := B.returns
  have hnl := B.notSynchronized
  have hts := atoms_spec (ws := .codeWith yL_replaceCard cL_replaceCard 4 (some .int) [(0, 9, 12, 19), (0, 9, 15, 28)] :: gw) B.pre
  have htg : ∀ w ∈ gw, w.before _ s = true := fun w h => hts w (List.mem_cons_of_mem _ h)
  have hown : s.vm.findClass RL = some m.cls := findClass_of_methodNamed B.named
  have htab := vx_table (x := yL_replaceCard) B (hts _ List.mem_cons_self)
  have cx : CX SX Γ ad (AXs ad) RL cL_replaceCard 4 p s m _ c := ⟨hx, hb, hml, hown, htg, hK, hA, hZ, hV⟩
  have hPS : PS SX Γ ad (AXs ad) s σ s.heap [] := ⟨hP, va_S.rf⟩
  have hS : va_S (fun z => AXs ad z ∨ z = o) s.heap s.heap [] := va_S.rf
  have hl := lv_entry ([.ref (ad 0 0), .int p1, .ref o]) (n := 4) (Nat.le_of_ble_eq_true rfl)
  rw [lg_entry_eq]
  generalize (lg_sl ([.ref (ad 0 0), .int p1, .ref o]) ++ List.replicate (4 - (lg_sl ([.ref (ad 0 0), .int p1, .ref o])).length) Slot.unset).toArray = ls at hl ⊢
  have hl : lv_has ls 4 [(0, .ref (ad 0 0)), (1, .int p1), (2, .ref o)] := hl
  refine lv_aload_n hx hb dL_replaceCard_0 rfl (lv_at hl 2 rfl) ?_
  refine lv_iconst (v := 0) hx hb dL_replaceCard_1 (by decide) ?_
  refine lv_aload_n hx hb dL_replaceCard_2 rfl (lv_at hl 0 rfl) ?_
  refine lv_iload_n hx hb dL_replaceCard_3 rfl (lv_at hl 1 rfl) ?_
  refine vx_calli (vx_runV (As := [.int p1]) (rest := [.int 0, .ref o]) (fixOf cx) (w11_replaceCard l hst Γ ad (AXs ad) p1 σ q hF) (mwL_48.callB cx ⟨Nat.le_of_ble_eq_true rfl, Nat.le_of_ble_eq_true rfl⟩) ⟨Pre.blind, recvOf cx hPS (dXr (by decide)) rfl rfl, fun U hU hW => ⟨rfl, cx.pre hPS hU hW⟩⟩ rfl rfl hl.1 rfl (lv_room (Nat.le_of_ble_eq_true rfl)) dL_replaceCard_4 ⟨Nat.le_of_ble_eq_true rfl, Nat.le_of_ble_eq_true rfl⟩) hS (fun q _ h => Or.inl h) (fun q h => Or.inl h) (fun q _ h => Or.inl h) (fun E ce q9 u t H1 locs1 ht hvm hu hb' hz hf' hS hce hcv hcl => ?_) (fun r u t H1 locs1 ht hvm hw hB hz1 hk1 hS => ?_)
  · have ho1 := hf.kept (by rw [hf' o hf.lt ho])
    obtain ⟨hE, hB⟩ := hb'
    rw [ht] at hB
    have hu0 : q.1 ≠ 0 := hu
    refine vx_widen (k := 2) (n := 12) (Nat.le_of_ble_eq_true rfl) (Nat.le_of_ble_eq_true rfl) ?_
    rcases hq with h | h | h
    · exact absurd h hu0
    · rw [h] at hE
      cases hE
      refine vx_catch hown [] _ _ htab (fun z hz => nomatch hz) (by decide) (by decide) (htg (.classLink RL 19 "java/lang/IndexOutOfBoundsException") (gw_t (tin5 (List.mem_of_getElem? (i := 87) rfl)) rfl)) (va_Nw.use rfl (hV.1 _ (List.mem_filter.mpr ⟨(tin5 (List.mem_of_getElem? (i := 102) rfl)), rfl⟩))) hce hcv hcl ?_
      refine lv_astore_n (lv' := [(3, .ref q9), (0, .ref (ad 0 0)), (1, .int p1), (2, .ref o)]) hx hb dL_replaceCard_12 rfl hl (by decide) rfl (fun ls hl => ?_)
      refine lv_iconst (v := 1) hx hb dL_replaceCard_13 (by decide) ?_
      refine vx_ret ?_
      exact W.iret (v := 1) hx hb hr (fun t ht hW => ⟨⟨1, (), rfl, Or.inr ⟨0, by rw [h]; rfl, hu0, rfl⟩, by rw [ht]; exact hB, f, by rw [ht]; exact ho1, fun e => absurd e hu0⟩, hS.F ht⟩) hS.2.2 dL_replaceCard_14
    · rw [h] at hE
      cases hE
      refine vx_catch hown [_] _ _ htab (fun z hz => Or.inr ⟨by rw [List.mem_singleton.mp hz]; decide, "java/lang/IndexOutOfBoundsException", by rw [List.mem_singleton.mp hz]; exact htg (.classLink RL 19 "java/lang/IndexOutOfBoundsException") (gw_t (tin5 (List.mem_of_getElem? (i := 87) rfl)) rfl), hNC 3 (by decide) (by decide) 2 (by decide) (by decide) (by decide)⟩) (by decide) (by decide) (htg (.classLink RL 28 "java/lang/IllegalStateException") (gw_t (tin5 (List.mem_of_getElem? (i := 126) rfl)) rfl)) (va_Nw.use rfl (hV.1 _ (List.mem_filter.mpr ⟨(tin5 (List.mem_of_getElem? (i := 137) rfl)), rfl⟩))) hce hcv hcl ?_
      refine lv_astore_n (lv' := [(3, .ref q9), (0, .ref (ad 0 0)), (1, .int p1), (2, .ref o)]) hx hb dL_replaceCard_15 rfl hl (by decide) rfl (fun ls hl => ?_)
      refine lv_iconst (v := 2) hx hb dL_replaceCard_16 (by decide) ?_
      refine vx_ret ?_
      exact W.iret (v := 2) hx hb hr (fun t ht hW => ⟨⟨2, (), rfl, Or.inr ⟨1, by rw [h]; rfl, hu0, rfl⟩, by rw [ht]; exact hB, f, by rw [ht]; exact ho1, fun e => absurd e hu0⟩, hS.F ht⟩) hS.2.2 dL_replaceCard_17
  · obtain ⟨hq0, rfl⟩ := hw
    rw [ht] at hB
    have ho1 := hf.kept (hk1 o hf.lt ho)
    refine lv_i2l hx hb dL_replaceCard_7 rfl ?_
    refine W.last hx hb ho1 ((hK.2 5 _ rfl).1 1 (fun j => .long (f j))) (fun q => by cases q) (by show ¬ ((0 : Int32) < 0 ∨ (arrV _ _ _).slots.size ≤ _); rw [arrV_size]; exact (by unfold vp_in; decide : vp_in 0 1)) rfl rfl dL_replaceCard_8 fun H2 e2 z oq => ?_
    have hno : ∀ g c, dX g c → ad g c ≠ o := fun g c hd e => ho ⟨g, c, hd, e.symm⟩
    have hP2 : PX SX Γ ad q.2.2 H2 := fun g c hd => (hB g c hd).kept (oq _ (hno g c hd))
    have ho2 : va_at Γ.1 vwCl (oC Γ o (vp_updL f 0 q.2.1.toInt64)) H2 := out_put e2
    have hS2 := hS.put (k := (0 : Int32).toNatClampNeg) z oq (Or.inr rfl : (fun z => AXs ad z ∨ z = o) o)
    refine W.eq (g2 := F0 m 9 ls []) rfl ?_
    refine lv_goto (tgt := 18) hx hb dL_replaceCard_9 (by decide) ?_
    refine lv_iconst (v := 0) hx hb dL_replaceCard_18 (by decide) ?_
    refine W.widen (k := 2) (n := 12) (Nat.le_of_ble_eq_true rfl) (Nat.le_of_ble_eq_true rfl) ?_
    refine vx_ret ?_
    exact W.iret (v := 0) hx hb hr (fun t ht hW => ⟨⟨0, (), rfl, Or.inl ⟨hq0, rfl⟩, by rw [ht]; exact hP2, _, by rw [ht]; exact ho2, fun _ => by unfold vp_updL; exact if_pos rfl⟩, hS2.F ht⟩) hS2.2.2 dL_replaceCard_19
theorem mwL_51 : MWv RL 51 yX11_refundPass cX11_refundPass 2 (some .int) 1 := ⟨gw_t (tin6 (List.mem_of_getElem? (i := 3) rfl)) rfl, gw_t (tin6 (List.mem_of_getElem? (i := 4) rfl)) rfl, gw_t (tin6 (List.mem_of_getElem? (i := 5) rfl)) rfl, gw_t (tin1 (List.mem_of_getElem? (i := 1) rfl)) rfl, gw_t (tin6 (List.mem_of_getElem? (i := 6) rfl)) rfl, by decide, by decide, by decide +kernel⟩
set_option maxHeartbeats 4000000 in
set_option maxRecDepth 100000 in
theorem wL_refundPass (l : Launch) (hst : l.stackTraces = false) (Γ : Wc) (ad : Nat → Nat → Nat) (o : Nat) (p1 : Int32) (σ : Sig) (q : Xe) (hF : f11_refundPass p1 σ = some q) (hq : q.1 = 0 ∨ q.1 = 2 ∨ q.1 = 3) : MWr l Γ ad o yL_refundPass cL_refundPass 4 [(0, 9, 12, 19), (0, 9, 15, 28)] 8 132 2 [.ref (ad 0 0), .int p1, .ref o] σ q [2, 3] := by
  refine vx_ofWH (by decide) rfl ?_
  intro p e s m args below meth c s₁ B hml hv
  obtain ⟨rfl, ⟨hP, hK, hA, hZ, hV⟩, ⟨f, hf⟩, ho, hNC⟩ := hv
  have hx := B.exec
  have hb := B.bytes
  have hr := B.returns
  have hnl := B.notSynchronized
  have hts := atoms_spec (ws := .codeWith yL_refundPass cL_refundPass 4 (some .int) [(0, 9, 12, 19), (0, 9, 15, 28)] :: gw) B.pre
  have htg : ∀ w ∈ gw, w.before _ s = true := fun w h => hts w (List.mem_cons_of_mem _ h)
  have hown : s.vm.findClass RL = some m.cls := findClass_of_methodNamed B.named
  have htab := vx_table (x := yL_refundPass) B (hts _ List.mem_cons_self)
  have cx : CX SX Γ ad (AXs ad) RL cL_refundPass 4 p s m _ c := ⟨hx, hb, hml, hown, htg, hK, hA, hZ, hV⟩
  have hPS : PS SX Γ ad (AXs ad) s σ s.heap [] := ⟨hP, va_S.rf⟩
  have hS : va_S (fun z => AXs ad z ∨ z = o) s.heap s.heap [] := va_S.rf
  have hl := lv_entry ([.ref (ad 0 0), .int p1, .ref o]) (n := 4) (Nat.le_of_ble_eq_true rfl)
  rw [lg_entry_eq]
  generalize (lg_sl ([.ref (ad 0 0), .int p1, .ref o]) ++ List.replicate (4 - (lg_sl ([.ref (ad 0 0), .int p1, .ref o])).length) Slot.unset).toArray = ls at hl ⊢
  have hl : lv_has ls 4 [(0, .ref (ad 0 0)), (1, .int p1), (2, .ref o)] := hl
  refine lv_aload_n hx hb dL_refundPass_0 rfl (lv_at hl 2 rfl) ?_
  refine lv_iconst (v := 0) hx hb dL_refundPass_1 (by decide) ?_
  refine lv_aload_n hx hb dL_refundPass_2 rfl (lv_at hl 0 rfl) ?_
  refine lv_iload_n hx hb dL_refundPass_3 rfl (lv_at hl 1 rfl) ?_
  refine vx_calli (vx_runV (As := [.int p1]) (rest := [.int 0, .ref o]) (fixOf cx) (w11_refundPass l hst Γ ad (AXs ad) p1 σ q hF) (mwL_51.callB cx ⟨Nat.le_of_ble_eq_true rfl, Nat.le_of_ble_eq_true rfl⟩) ⟨Pre.blind, recvOf cx hPS (dXr (by decide)) rfl rfl, fun U hU hW => ⟨rfl, cx.pre hPS hU hW⟩⟩ rfl rfl hl.1 rfl (lv_room (Nat.le_of_ble_eq_true rfl)) dL_refundPass_4 ⟨Nat.le_of_ble_eq_true rfl, Nat.le_of_ble_eq_true rfl⟩) hS (fun q _ h => Or.inl h) (fun q h => Or.inl h) (fun q _ h => Or.inl h) (fun E ce q9 u t H1 locs1 ht hvm hu hb' hz hf' hS hce hcv hcl => ?_) (fun r u t H1 locs1 ht hvm hw hB hz1 hk1 hS => ?_)
  · have ho1 := hf.kept (by rw [hf' o hf.lt ho])
    obtain ⟨hE, hB⟩ := hb'
    rw [ht] at hB
    have hu0 : q.1 ≠ 0 := hu
    refine vx_widen (k := 2) (n := 12) (Nat.le_of_ble_eq_true rfl) (Nat.le_of_ble_eq_true rfl) ?_
    rcases hq with h | h | h
    · exact absurd h hu0
    · rw [h] at hE
      cases hE
      refine vx_catch hown [] _ _ htab (fun z hz => nomatch hz) (by decide) (by decide) (htg (.classLink RL 19 "java/lang/IndexOutOfBoundsException") (gw_t (tin5 (List.mem_of_getElem? (i := 87) rfl)) rfl)) (va_Nw.use rfl (hV.1 _ (List.mem_filter.mpr ⟨(tin5 (List.mem_of_getElem? (i := 102) rfl)), rfl⟩))) hce hcv hcl ?_
      refine lv_astore_n (lv' := [(3, .ref q9), (0, .ref (ad 0 0)), (1, .int p1), (2, .ref o)]) hx hb dL_refundPass_12 rfl hl (by decide) rfl (fun ls hl => ?_)
      refine lv_iconst (v := 1) hx hb dL_refundPass_13 (by decide) ?_
      refine vx_ret ?_
      exact W.iret (v := 1) hx hb hr (fun t ht hW => ⟨⟨1, (), rfl, Or.inr ⟨0, by rw [h]; rfl, hu0, rfl⟩, by rw [ht]; exact hB, f, by rw [ht]; exact ho1, fun e => absurd e hu0⟩, hS.F ht⟩) hS.2.2 dL_refundPass_14
    · rw [h] at hE
      cases hE
      refine vx_catch hown [_] _ _ htab (fun z hz => Or.inr ⟨by rw [List.mem_singleton.mp hz]; decide, "java/lang/IndexOutOfBoundsException", by rw [List.mem_singleton.mp hz]; exact htg (.classLink RL 19 "java/lang/IndexOutOfBoundsException") (gw_t (tin5 (List.mem_of_getElem? (i := 87) rfl)) rfl), hNC 3 (by decide) (by decide) 2 (by decide) (by decide) (by decide)⟩) (by decide) (by decide) (htg (.classLink RL 28 "java/lang/IllegalStateException") (gw_t (tin5 (List.mem_of_getElem? (i := 126) rfl)) rfl)) (va_Nw.use rfl (hV.1 _ (List.mem_filter.mpr ⟨(tin5 (List.mem_of_getElem? (i := 137) rfl)), rfl⟩))) hce hcv hcl ?_
      refine lv_astore_n (lv' := [(3, .ref q9), (0, .ref (ad 0 0)), (1, .int p1), (2, .ref o)]) hx hb dL_refundPass_15 rfl hl (by decide) rfl (fun ls hl => ?_)
      refine lv_iconst (v := 2) hx hb dL_refundPass_16 (by decide) ?_
      refine vx_ret ?_
      exact W.iret (v := 2) hx hb hr (fun t ht hW => ⟨⟨2, (), rfl, Or.inr ⟨1, by rw [h]; rfl, hu0, rfl⟩, by rw [ht]; exact hB, f, by rw [ht]; exact ho1, fun e => absurd e hu0⟩, hS.F ht⟩) hS.2.2 dL_refundPass_17
  · obtain ⟨hq0, rfl⟩ := hw
    rw [ht] at hB
    have ho1 := hf.kept (hk1 o hf.lt ho)
    refine lv_i2l hx hb dL_refundPass_7 rfl ?_
    refine W.last hx hb ho1 ((hK.2 5 _ rfl).1 1 (fun j => .long (f j))) (fun q => by cases q) (by show ¬ ((0 : Int32) < 0 ∨ (arrV _ _ _).slots.size ≤ _); rw [arrV_size]; exact (by unfold vp_in; decide : vp_in 0 1)) rfl rfl dL_refundPass_8 fun H2 e2 z oq => ?_
    have hno : ∀ g c, dX g c → ad g c ≠ o := fun g c hd e => ho ⟨g, c, hd, e.symm⟩
    have hP2 : PX SX Γ ad q.2.2 H2 := fun g c hd => (hB g c hd).kept (oq _ (hno g c hd))
    have ho2 : va_at Γ.1 vwCl (oC Γ o (vp_updL f 0 q.2.1.toInt64)) H2 := out_put e2
    have hS2 := hS.put (k := (0 : Int32).toNatClampNeg) z oq (Or.inr rfl : (fun z => AXs ad z ∨ z = o) o)
    refine W.eq (g2 := F0 m 9 ls []) rfl ?_
    refine lv_goto (tgt := 18) hx hb dL_refundPass_9 (by decide) ?_
    refine lv_iconst (v := 0) hx hb dL_refundPass_18 (by decide) ?_
    refine W.widen (k := 2) (n := 12) (Nat.le_of_ble_eq_true rfl) (Nat.le_of_ble_eq_true rfl) ?_
    refine vx_ret ?_
    exact W.iret (v := 0) hx hb hr (fun t ht hW => ⟨⟨0, (), rfl, Or.inl ⟨hq0, rfl⟩, by rw [ht]; exact hP2, _, by rw [ht]; exact ho2, fun _ => by unfold vp_updL; exact if_pos rfl⟩, hS2.F ht⟩) hS2.2.2 dL_refundPass_19
theorem mwL_54 : MWv RL 54 yX11_visit cX11_visit 3 (some .int) 2 := ⟨gw_t (tin6 (List.mem_of_getElem? (i := 11) rfl)) rfl, gw_t (tin6 (List.mem_of_getElem? (i := 12) rfl)) rfl, gw_t (tin6 (List.mem_of_getElem? (i := 13) rfl)) rfl, gw_t (tin1 (List.mem_of_getElem? (i := 1) rfl)) rfl, gw_t (tin6 (List.mem_of_getElem? (i := 14) rfl)) rfl, by decide, by decide, by decide +kernel⟩
set_option maxHeartbeats 4000000 in
set_option maxRecDepth 100000 in
theorem wL_visit (l : Launch) (hst : l.stackTraces = false) (Γ : Wc) (ad : Nat → Nat → Nat) (o : Nat) (p1 p2 : Int32) (σ : Sig) (q : Xe) (hF : f11_visit p1 p2 σ = some q) (hq : q.1 = 0 ∨ q.1 = 2) : MWr l Γ ad o yL_visit cL_visit 5 [(0, 10, 13, 19)] 8 133 2 [.ref (ad 0 0), .int p1, .int p2, .ref o] σ q [2] := by
  refine vx_ofWH (by decide) rfl ?_
  intro p e s m args below meth c s₁ B hml hv
  obtain ⟨rfl, ⟨hP, hK, hA, hZ, hV⟩, ⟨f, hf⟩, ho, hNC⟩ := hv
  have hx := B.exec
  have hb := B.bytes
  have hr := B.returns
  have hnl := B.notSynchronized
  have hts := atoms_spec (ws := .codeWith yL_visit cL_visit 5 (some .int) [(0, 10, 13, 19)] :: gw) B.pre
  have htg : ∀ w ∈ gw, w.before _ s = true := fun w h => hts w (List.mem_cons_of_mem _ h)
  have hown : s.vm.findClass RL = some m.cls := findClass_of_methodNamed B.named
  have htab := vx_table (x := yL_visit) B (hts _ List.mem_cons_self)
  have cx : CX SX Γ ad (AXs ad) RL cL_visit 5 p s m _ c := ⟨hx, hb, hml, hown, htg, hK, hA, hZ, hV⟩
  have hPS : PS SX Γ ad (AXs ad) s σ s.heap [] := ⟨hP, va_S.rf⟩
  have hS : va_S (fun z => AXs ad z ∨ z = o) s.heap s.heap [] := va_S.rf
  have hl := lv_entry ([.ref (ad 0 0), .int p1, .int p2, .ref o]) (n := 5) (Nat.le_of_ble_eq_true rfl)
  rw [lg_entry_eq]
  generalize (lg_sl ([.ref (ad 0 0), .int p1, .int p2, .ref o]) ++ List.replicate (5 - (lg_sl ([.ref (ad 0 0), .int p1, .int p2, .ref o])).length) Slot.unset).toArray = ls at hl ⊢
  have hl : lv_has ls 5 [(0, .ref (ad 0 0)), (1, .int p1), (2, .int p2), (3, .ref o)] := hl
  refine lv_aload_n hx hb dL_visit_0 rfl (lv_at hl 3 rfl) ?_
  refine lv_iconst (v := 0) hx hb dL_visit_1 (by decide) ?_
  refine lv_aload_n hx hb dL_visit_2 rfl (lv_at hl 0 rfl) ?_
  refine lv_iload_n hx hb dL_visit_3 rfl (lv_at hl 1 rfl) ?_
  refine lv_iload_n hx hb dL_visit_4 rfl (lv_at hl 2 rfl) ?_
  refine vx_calli (vx_runV (As := [.int p1, .int p2]) (rest := [.int 0, .ref o]) (fixOf cx) (w11_visit l hst Γ ad (AXs ad) p1 p2 σ q hF) (mwL_54.callB cx ⟨Nat.le_of_ble_eq_true rfl, Nat.le_of_ble_eq_true rfl⟩) ⟨Pre.blind, recvOf cx hPS (dXr (by decide)) rfl rfl, fun U hU hW => ⟨rfl, cx.pre hPS hU hW⟩⟩ rfl rfl hl.1 rfl (lv_room (Nat.le_of_ble_eq_true rfl)) dL_visit_5 ⟨Nat.le_of_ble_eq_true rfl, Nat.le_of_ble_eq_true rfl⟩) hS (fun q _ h => Or.inl h) (fun q h => Or.inl h) (fun q _ h => Or.inl h) (fun E ce q9 u t H1 locs1 ht hvm hu hb' hz hf' hS hce hcv hcl => ?_) (fun r u t H1 locs1 ht hvm hw hB hz1 hk1 hS => ?_)
  · have ho1 := hf.kept (by rw [hf' o hf.lt ho])
    obtain ⟨hE, hB⟩ := hb'
    rw [ht] at hB
    have hu0 : q.1 ≠ 0 := hu
    refine vx_widen (k := 2) (n := 12) (Nat.le_of_ble_eq_true rfl) (Nat.le_of_ble_eq_true rfl) ?_
    rcases hq with h | h
    · exact absurd h hu0
    · rw [h] at hE
      cases hE
      refine vx_catch hown [] _ _ htab (fun z hz => nomatch hz) (by decide) (by decide) (htg (.classLink RL 19 "java/lang/IndexOutOfBoundsException") (gw_t (tin5 (List.mem_of_getElem? (i := 87) rfl)) rfl)) (va_Nw.use rfl (hV.1 _ (List.mem_filter.mpr ⟨(tin5 (List.mem_of_getElem? (i := 102) rfl)), rfl⟩))) hce hcv hcl ?_
      refine lv_astore (lv' := [(4, .ref q9), (0, .ref (ad 0 0)), (1, .int p1), (2, .int p2), (3, .ref o)]) hx hb dL_visit_13 hl (by decide) rfl (fun ls hl => ?_)
      refine lv_iconst (v := 1) hx hb dL_visit_15 (by decide) ?_
      refine vx_ret ?_
      exact W.iret (v := 1) hx hb hr (fun t ht hW => ⟨⟨1, (), rfl, Or.inr ⟨0, by rw [h]; rfl, hu0, rfl⟩, by rw [ht]; exact hB, f, by rw [ht]; exact ho1, fun e => absurd e hu0⟩, hS.F ht⟩) hS.2.2 dL_visit_16
  · obtain ⟨hq0, rfl⟩ := hw
    rw [ht] at hB
    have ho1 := hf.kept (hk1 o hf.lt ho)
    refine lv_i2l hx hb dL_visit_8 rfl ?_
    refine W.last hx hb ho1 ((hK.2 5 _ rfl).1 1 (fun j => .long (f j))) (fun q => by cases q) (by show ¬ ((0 : Int32) < 0 ∨ (arrV _ _ _).slots.size ≤ _); rw [arrV_size]; exact (by unfold vp_in; decide : vp_in 0 1)) rfl rfl dL_visit_9 fun H2 e2 z oq => ?_
    have hno : ∀ g c, dX g c → ad g c ≠ o := fun g c hd e => ho ⟨g, c, hd, e.symm⟩
    have hP2 : PX SX Γ ad q.2.2 H2 := fun g c hd => (hB g c hd).kept (oq _ (hno g c hd))
    have ho2 : va_at Γ.1 vwCl (oC Γ o (vp_updL f 0 q.2.1.toInt64)) H2 := out_put e2
    have hS2 := hS.put (k := (0 : Int32).toNatClampNeg) z oq (Or.inr rfl : (fun z => AXs ad z ∨ z = o) o)
    refine W.eq (g2 := F0 m 10 ls []) rfl ?_
    refine lv_goto (tgt := 17) hx hb dL_visit_10 (by decide) ?_
    refine lv_iconst (v := 0) hx hb dL_visit_17 (by decide) ?_
    refine W.widen (k := 2) (n := 12) (Nat.le_of_ble_eq_true rfl) (Nat.le_of_ble_eq_true rfl) ?_
    refine vx_ret ?_
    exact W.iret (v := 0) hx hb hr (fun t ht hW => ⟨⟨0, (), rfl, Or.inl ⟨hq0, rfl⟩, by rw [ht]; exact hP2, _, by rw [ht]; exact ho2, fun _ => by unfold vp_updL; exact if_pos rfl⟩, hS2.F ht⟩) hS2.2.2 dL_visit_18
theorem mwL_57 : MWv RL 57 yX11_pluck cX11_pluck 3 (some .int) 2 := ⟨gw_t (tin6 (List.mem_of_getElem? (i := 31) rfl)) rfl, gw_t (tin6 (List.mem_of_getElem? (i := 32) rfl)) rfl, gw_t (tin6 (List.mem_of_getElem? (i := 33) rfl)) rfl, gw_t (tin1 (List.mem_of_getElem? (i := 1) rfl)) rfl, gw_t (tin6 (List.mem_of_getElem? (i := 34) rfl)) rfl, by decide, by decide, by decide +kernel⟩
set_option maxHeartbeats 4000000 in
set_option maxRecDepth 100000 in
theorem wL_pluck (l : Launch) (hst : l.stackTraces = false) (Γ : Wc) (ad : Nat → Nat → Nat) (o : Nat) (p1 p2 : Int32) (σ : Sig) (q : Xe) (hF : f11_pluck p1 p2 σ = some q) (hq : q.1 = 0 ∨ q.1 = 2 ∨ q.1 = 1 ∨ q.1 = 3) : MWr l Γ ad o yL_pluck cL_pluck 5 [(0, 10, 13, 19), (0, 10, 17, 13), (0, 10, 21, 28)] 8 134 3 [.ref (ad 0 0), .int p1, .int p2, .ref o] σ q [2, 1, 3] := by
  refine vx_ofWH (by decide) rfl ?_
  intro p e s m args below meth c s₁ B hml hv
  obtain ⟨rfl, ⟨hP, hK, hA, hZ, hV⟩, ⟨f, hf⟩, ho, hNC⟩ := hv
  have hx := B.exec
  have hb := B.bytes
  have hr := B.returns
  have hnl := B.notSynchronized
  have hts := atoms_spec (ws := .codeWith yL_pluck cL_pluck 5 (some .int) [(0, 10, 13, 19), (0, 10, 17, 13), (0, 10, 21, 28)] :: gw) B.pre
  have htg : ∀ w ∈ gw, w.before _ s = true := fun w h => hts w (List.mem_cons_of_mem _ h)
  have hown : s.vm.findClass RL = some m.cls := findClass_of_methodNamed B.named
  have htab := vx_table (x := yL_pluck) B (hts _ List.mem_cons_self)
  have cx : CX SX Γ ad (AXs ad) RL cL_pluck 5 p s m _ c := ⟨hx, hb, hml, hown, htg, hK, hA, hZ, hV⟩
  have hPS : PS SX Γ ad (AXs ad) s σ s.heap [] := ⟨hP, va_S.rf⟩
  have hS : va_S (fun z => AXs ad z ∨ z = o) s.heap s.heap [] := va_S.rf
  have hl := lv_entry ([.ref (ad 0 0), .int p1, .int p2, .ref o]) (n := 5) (Nat.le_of_ble_eq_true rfl)
  rw [lg_entry_eq]
  generalize (lg_sl ([.ref (ad 0 0), .int p1, .int p2, .ref o]) ++ List.replicate (5 - (lg_sl ([.ref (ad 0 0), .int p1, .int p2, .ref o])).length) Slot.unset).toArray = ls at hl ⊢
  have hl : lv_has ls 5 [(0, .ref (ad 0 0)), (1, .int p1), (2, .int p2), (3, .ref o)] := hl
  refine lv_aload_n hx hb dL_pluck_0 rfl (lv_at hl 3 rfl) ?_
  refine lv_iconst (v := 0) hx hb dL_pluck_1 (by decide) ?_
  refine lv_aload_n hx hb dL_pluck_2 rfl (lv_at hl 0 rfl) ?_
  refine lv_iload_n hx hb dL_pluck_3 rfl (lv_at hl 1 rfl) ?_
  refine lv_iload_n hx hb dL_pluck_4 rfl (lv_at hl 2 rfl) ?_
  refine vx_calli (vx_runV (As := [.int p1, .int p2]) (rest := [.int 0, .ref o]) (fixOf cx) (w11_pluck l hst Γ ad (AXs ad) p1 p2 σ q hF) (mwL_57.callB cx ⟨Nat.le_of_ble_eq_true rfl, Nat.le_of_ble_eq_true rfl⟩) ⟨Pre.blind, recvOf cx hPS (dXr (by decide)) rfl rfl, fun U hU hW => ⟨rfl, cx.pre hPS hU hW⟩⟩ rfl rfl hl.1 rfl (lv_room (Nat.le_of_ble_eq_true rfl)) dL_pluck_5 ⟨Nat.le_of_ble_eq_true rfl, Nat.le_of_ble_eq_true rfl⟩) hS (fun q _ h => Or.inl h) (fun q h => Or.inl h) (fun q _ h => Or.inl h) (fun E ce q9 u t H1 locs1 ht hvm hu hb' hz hf' hS hce hcv hcl => ?_) (fun r u t H1 locs1 ht hvm hw hB hz1 hk1 hS => ?_)
  · have ho1 := hf.kept (by rw [hf' o hf.lt ho])
    obtain ⟨hE, hB⟩ := hb'
    rw [ht] at hB
    have hu0 : q.1 ≠ 0 := hu
    refine vx_widen (k := 3) (n := 18) (Nat.le_of_ble_eq_true rfl) (Nat.le_of_ble_eq_true rfl) ?_
    rcases hq with h | h | h | h
    · exact absurd h hu0
    · rw [h] at hE
      cases hE
      refine vx_catch hown [] _ _ htab (fun z hz => nomatch hz) (by decide) (by decide) (htg (.classLink RL 19 "java/lang/IndexOutOfBoundsException") (gw_t (tin5 (List.mem_of_getElem? (i := 87) rfl)) rfl)) (va_Nw.use rfl (hV.1 _ (List.mem_filter.mpr ⟨(tin5 (List.mem_of_getElem? (i := 102) rfl)), rfl⟩))) hce hcv hcl ?_
      refine lv_astore (lv' := [(4, .ref q9), (0, .ref (ad 0 0)), (1, .int p1), (2, .int p2), (3, .ref o)]) hx hb dL_pluck_13 hl (by decide) rfl (fun ls hl => ?_)
      refine lv_iconst (v := 1) hx hb dL_pluck_15 (by decide) ?_
      refine vx_ret ?_
      exact W.iret (v := 1) hx hb hr (fun t ht hW => ⟨⟨1, (), rfl, Or.inr ⟨0, by rw [h]; rfl, hu0, rfl⟩, by rw [ht]; exact hB, f, by rw [ht]; exact ho1, fun e => absurd e hu0⟩, hS.F ht⟩) hS.2.2 dL_pluck_16
    · rw [h] at hE
      cases hE
      refine vx_catch hown [_] _ _ htab (fun z hz => Or.inr ⟨by rw [List.mem_singleton.mp hz]; decide, "java/lang/IndexOutOfBoundsException", by rw [List.mem_singleton.mp hz]; exact htg (.classLink RL 19 "java/lang/IndexOutOfBoundsException") (gw_t (tin5 (List.mem_of_getElem? (i := 87) rfl)) rfl), hNC 1 (by decide) (by decide) 2 (by decide) (by decide) (by decide)⟩) (by decide) (by decide) (htg (.classLink RL 13 "java/lang/IllegalArgumentException") (gw_t (tin5 (List.mem_of_getElem? (i := 8) rfl)) rfl)) (va_Nw.use rfl (hV.1 _ (List.mem_filter.mpr ⟨(tin5 (List.mem_of_getElem? (i := 18) rfl)), rfl⟩))) hce hcv hcl ?_
      refine lv_astore (lv' := [(4, .ref q9), (0, .ref (ad 0 0)), (1, .int p1), (2, .int p2), (3, .ref o)]) hx hb dL_pluck_17 hl (by decide) rfl (fun ls hl => ?_)
      refine lv_iconst (v := 2) hx hb dL_pluck_19 (by decide) ?_
      refine vx_ret ?_
      exact W.iret (v := 2) hx hb hr (fun t ht hW => ⟨⟨2, (), rfl, Or.inr ⟨1, by rw [h]; rfl, hu0, rfl⟩, by rw [ht]; exact hB, f, by rw [ht]; exact ho1, fun e => absurd e hu0⟩, hS.F ht⟩) hS.2.2 dL_pluck_20
    · rw [h] at hE
      cases hE
      refine vx_catch hown [_, _] _ _ htab (fun z hz => (List.mem_cons.mp hz).elim (fun e9 => Or.inr ⟨by subst e9; decide, "java/lang/IndexOutOfBoundsException", by subst e9; exact htg (.classLink RL 19 "java/lang/IndexOutOfBoundsException") (gw_t (tin5 (List.mem_of_getElem? (i := 87) rfl)) rfl), hNC 3 (by decide) (by decide) 2 (by decide) (by decide) (by decide)⟩) (fun hz => (fun e9 => Or.inr ⟨by subst e9; decide, "java/lang/IllegalArgumentException", by subst e9; exact htg (.classLink RL 13 "java/lang/IllegalArgumentException") (gw_t (tin5 (List.mem_of_getElem? (i := 8) rfl)) rfl), hNC 3 (by decide) (by decide) 1 (by decide) (by decide) (by decide)⟩) (List.mem_singleton.mp hz))) (by decide) (by decide) (htg (.classLink RL 28 "java/lang/IllegalStateException") (gw_t (tin5 (List.mem_of_getElem? (i := 126) rfl)) rfl)) (va_Nw.use rfl (hV.1 _ (List.mem_filter.mpr ⟨(tin5 (List.mem_of_getElem? (i := 137) rfl)), rfl⟩))) hce hcv hcl ?_
      refine lv_astore (lv' := [(4, .ref q9), (0, .ref (ad 0 0)), (1, .int p1), (2, .int p2), (3, .ref o)]) hx hb dL_pluck_21 hl (by decide) rfl (fun ls hl => ?_)
      refine lv_iconst (v := 3) hx hb dL_pluck_23 (by decide) ?_
      refine vx_ret ?_
      exact W.iret (v := 3) hx hb hr (fun t ht hW => ⟨⟨3, (), rfl, Or.inr ⟨2, by rw [h]; rfl, hu0, rfl⟩, by rw [ht]; exact hB, f, by rw [ht]; exact ho1, fun e => absurd e hu0⟩, hS.F ht⟩) hS.2.2 dL_pluck_24
  · obtain ⟨hq0, rfl⟩ := hw
    rw [ht] at hB
    have ho1 := hf.kept (hk1 o hf.lt ho)
    refine lv_i2l hx hb dL_pluck_8 rfl ?_
    refine W.last hx hb ho1 ((hK.2 5 _ rfl).1 1 (fun j => .long (f j))) (fun q => by cases q) (by show ¬ ((0 : Int32) < 0 ∨ (arrV _ _ _).slots.size ≤ _); rw [arrV_size]; exact (by unfold vp_in; decide : vp_in 0 1)) rfl rfl dL_pluck_9 fun H2 e2 z oq => ?_
    have hno : ∀ g c, dX g c → ad g c ≠ o := fun g c hd e => ho ⟨g, c, hd, e.symm⟩
    have hP2 : PX SX Γ ad q.2.2 H2 := fun g c hd => (hB g c hd).kept (oq _ (hno g c hd))
    have ho2 : va_at Γ.1 vwCl (oC Γ o (vp_updL f 0 q.2.1.toInt64)) H2 := out_put e2
    have hS2 := hS.put (k := (0 : Int32).toNatClampNeg) z oq (Or.inr rfl : (fun z => AXs ad z ∨ z = o) o)
    refine W.eq (g2 := F0 m 10 ls []) rfl ?_
    refine lv_goto (tgt := 25) hx hb dL_pluck_10 (by decide) ?_
    refine lv_iconst (v := 0) hx hb dL_pluck_25 (by decide) ?_
    refine W.widen (k := 3) (n := 18) (Nat.le_of_ble_eq_true rfl) (Nat.le_of_ble_eq_true rfl) ?_
    refine vx_ret ?_
    exact W.iret (v := 0) hx hb hr (fun t ht hW => ⟨⟨0, (), rfl, Or.inl ⟨hq0, rfl⟩, by rw [ht]; exact hP2, _, by rw [ht]; exact ho2, fun _ => by unfold vp_updL; exact if_pos rfl⟩, hS2.F ht⟩) hS2.2.2 dL_pluck_26
theorem mwL_60 : MWv RL 60 yX11_payFines cX11_payFines 3 (some .int) 2 := ⟨gw_t (tin6 (List.mem_of_getElem? (i := 40) rfl)) rfl, gw_t (tin6 (List.mem_of_getElem? (i := 41) rfl)) rfl, gw_t (tin6 (List.mem_of_getElem? (i := 42) rfl)) rfl, gw_t (tin1 (List.mem_of_getElem? (i := 1) rfl)) rfl, gw_t (tin6 (List.mem_of_getElem? (i := 43) rfl)) rfl, by decide, by decide, by decide +kernel⟩
set_option maxHeartbeats 4000000 in
set_option maxRecDepth 100000 in
theorem wL_payFines (l : Launch) (hst : l.stackTraces = false) (Γ : Wc) (ad : Nat → Nat → Nat) (o : Nat) (p1 p2 : Int32) (σ : Sig) (q : Xe) (hF : f11_payFines p1 p2 σ = some q) (hq : q.1 = 0 ∨ q.1 = 2 ∨ q.1 = 1 ∨ q.1 = 3) : MWr l Γ ad o yL_payFines cL_payFines 5 [(0, 10, 13, 19), (0, 10, 17, 13), (0, 10, 21, 28)] 8 134 3 [.ref (ad 0 0), .int p1, .int p2, .ref o] σ q [2, 1, 3] := by
  refine vx_ofWH (by decide) rfl ?_
  intro p e s m args below meth c s₁ B hml hv
  obtain ⟨rfl, ⟨hP, hK, hA, hZ, hV⟩, ⟨f, hf⟩, ho, hNC⟩ := hv
  have hx := B.exec
  have hb := B.bytes
  have hr := B.returns
  have hnl := B.notSynchronized
  have hts := atoms_spec (ws := .codeWith yL_payFines cL_payFines 5 (some .int) [(0, 10, 13, 19), (0, 10, 17, 13), (0, 10, 21, 28)] :: gw) B.pre
  have htg : ∀ w ∈ gw, w.before _ s = true := fun w h => hts w (List.mem_cons_of_mem _ h)
  have hown : s.vm.findClass RL = some m.cls := findClass_of_methodNamed B.named
  have htab := vx_table (x := yL_payFines) B (hts _ List.mem_cons_self)
  have cx : CX SX Γ ad (AXs ad) RL cL_payFines 5 p s m _ c := ⟨hx, hb, hml, hown, htg, hK, hA, hZ, hV⟩
  have hPS : PS SX Γ ad (AXs ad) s σ s.heap [] := ⟨hP, va_S.rf⟩
  have hS : va_S (fun z => AXs ad z ∨ z = o) s.heap s.heap [] := va_S.rf
  have hl := lv_entry ([.ref (ad 0 0), .int p1, .int p2, .ref o]) (n := 5) (Nat.le_of_ble_eq_true rfl)
  rw [lg_entry_eq]
  generalize (lg_sl ([.ref (ad 0 0), .int p1, .int p2, .ref o]) ++ List.replicate (5 - (lg_sl ([.ref (ad 0 0), .int p1, .int p2, .ref o])).length) Slot.unset).toArray = ls at hl ⊢
  have hl : lv_has ls 5 [(0, .ref (ad 0 0)), (1, .int p1), (2, .int p2), (3, .ref o)] := hl
  refine lv_aload_n hx hb dL_payFines_0 rfl (lv_at hl 3 rfl) ?_
  refine lv_iconst (v := 0) hx hb dL_payFines_1 (by decide) ?_
  refine lv_aload_n hx hb dL_payFines_2 rfl (lv_at hl 0 rfl) ?_
  refine lv_iload_n hx hb dL_payFines_3 rfl (lv_at hl 1 rfl) ?_
  refine lv_iload_n hx hb dL_payFines_4 rfl (lv_at hl 2 rfl) ?_
  refine vx_calli (vx_runV (As := [.int p1, .int p2]) (rest := [.int 0, .ref o]) (fixOf cx) (w11_payFines l hst Γ ad (AXs ad) p1 p2 σ q hF) (mwL_60.callB cx ⟨Nat.le_of_ble_eq_true rfl, Nat.le_of_ble_eq_true rfl⟩) ⟨Pre.blind, recvOf cx hPS (dXr (by decide)) rfl rfl, fun U hU hW => ⟨rfl, cx.pre hPS hU hW⟩⟩ rfl rfl hl.1 rfl (lv_room (Nat.le_of_ble_eq_true rfl)) dL_payFines_5 ⟨Nat.le_of_ble_eq_true rfl, Nat.le_of_ble_eq_true rfl⟩) hS (fun q _ h => Or.inl h) (fun q h => Or.inl h) (fun q _ h => Or.inl h) (fun E ce q9 u t H1 locs1 ht hvm hu hb' hz hf' hS hce hcv hcl => ?_) (fun r u t H1 locs1 ht hvm hw hB hz1 hk1 hS => ?_)
  · have ho1 := hf.kept (by rw [hf' o hf.lt ho])
    obtain ⟨hE, hB⟩ := hb'
    rw [ht] at hB
    have hu0 : q.1 ≠ 0 := hu
    refine vx_widen (k := 3) (n := 18) (Nat.le_of_ble_eq_true rfl) (Nat.le_of_ble_eq_true rfl) ?_
    rcases hq with h | h | h | h
    · exact absurd h hu0
    · rw [h] at hE
      cases hE
      refine vx_catch hown [] _ _ htab (fun z hz => nomatch hz) (by decide) (by decide) (htg (.classLink RL 19 "java/lang/IndexOutOfBoundsException") (gw_t (tin5 (List.mem_of_getElem? (i := 87) rfl)) rfl)) (va_Nw.use rfl (hV.1 _ (List.mem_filter.mpr ⟨(tin5 (List.mem_of_getElem? (i := 102) rfl)), rfl⟩))) hce hcv hcl ?_
      refine lv_astore (lv' := [(4, .ref q9), (0, .ref (ad 0 0)), (1, .int p1), (2, .int p2), (3, .ref o)]) hx hb dL_payFines_13 hl (by decide) rfl (fun ls hl => ?_)
      refine lv_iconst (v := 1) hx hb dL_payFines_15 (by decide) ?_
      refine vx_ret ?_
      exact W.iret (v := 1) hx hb hr (fun t ht hW => ⟨⟨1, (), rfl, Or.inr ⟨0, by rw [h]; rfl, hu0, rfl⟩, by rw [ht]; exact hB, f, by rw [ht]; exact ho1, fun e => absurd e hu0⟩, hS.F ht⟩) hS.2.2 dL_payFines_16
    · rw [h] at hE
      cases hE
      refine vx_catch hown [_] _ _ htab (fun z hz => Or.inr ⟨by rw [List.mem_singleton.mp hz]; decide, "java/lang/IndexOutOfBoundsException", by rw [List.mem_singleton.mp hz]; exact htg (.classLink RL 19 "java/lang/IndexOutOfBoundsException") (gw_t (tin5 (List.mem_of_getElem? (i := 87) rfl)) rfl), hNC 1 (by decide) (by decide) 2 (by decide) (by decide) (by decide)⟩) (by decide) (by decide) (htg (.classLink RL 13 "java/lang/IllegalArgumentException") (gw_t (tin5 (List.mem_of_getElem? (i := 8) rfl)) rfl)) (va_Nw.use rfl (hV.1 _ (List.mem_filter.mpr ⟨(tin5 (List.mem_of_getElem? (i := 18) rfl)), rfl⟩))) hce hcv hcl ?_
      refine lv_astore (lv' := [(4, .ref q9), (0, .ref (ad 0 0)), (1, .int p1), (2, .int p2), (3, .ref o)]) hx hb dL_payFines_17 hl (by decide) rfl (fun ls hl => ?_)
      refine lv_iconst (v := 2) hx hb dL_payFines_19 (by decide) ?_
      refine vx_ret ?_
      exact W.iret (v := 2) hx hb hr (fun t ht hW => ⟨⟨2, (), rfl, Or.inr ⟨1, by rw [h]; rfl, hu0, rfl⟩, by rw [ht]; exact hB, f, by rw [ht]; exact ho1, fun e => absurd e hu0⟩, hS.F ht⟩) hS.2.2 dL_payFines_20
    · rw [h] at hE
      cases hE
      refine vx_catch hown [_, _] _ _ htab (fun z hz => (List.mem_cons.mp hz).elim (fun e9 => Or.inr ⟨by subst e9; decide, "java/lang/IndexOutOfBoundsException", by subst e9; exact htg (.classLink RL 19 "java/lang/IndexOutOfBoundsException") (gw_t (tin5 (List.mem_of_getElem? (i := 87) rfl)) rfl), hNC 3 (by decide) (by decide) 2 (by decide) (by decide) (by decide)⟩) (fun hz => (fun e9 => Or.inr ⟨by subst e9; decide, "java/lang/IllegalArgumentException", by subst e9; exact htg (.classLink RL 13 "java/lang/IllegalArgumentException") (gw_t (tin5 (List.mem_of_getElem? (i := 8) rfl)) rfl), hNC 3 (by decide) (by decide) 1 (by decide) (by decide) (by decide)⟩) (List.mem_singleton.mp hz))) (by decide) (by decide) (htg (.classLink RL 28 "java/lang/IllegalStateException") (gw_t (tin5 (List.mem_of_getElem? (i := 126) rfl)) rfl)) (va_Nw.use rfl (hV.1 _ (List.mem_filter.mpr ⟨(tin5 (List.mem_of_getElem? (i := 137) rfl)), rfl⟩))) hce hcv hcl ?_
      refine lv_astore (lv' := [(4, .ref q9), (0, .ref (ad 0 0)), (1, .int p1), (2, .int p2), (3, .ref o)]) hx hb dL_payFines_21 hl (by decide) rfl (fun ls hl => ?_)
      refine lv_iconst (v := 3) hx hb dL_payFines_23 (by decide) ?_
      refine vx_ret ?_
      exact W.iret (v := 3) hx hb hr (fun t ht hW => ⟨⟨3, (), rfl, Or.inr ⟨2, by rw [h]; rfl, hu0, rfl⟩, by rw [ht]; exact hB, f, by rw [ht]; exact ho1, fun e => absurd e hu0⟩, hS.F ht⟩) hS.2.2 dL_payFines_24
  · obtain ⟨hq0, rfl⟩ := hw
    rw [ht] at hB
    have ho1 := hf.kept (hk1 o hf.lt ho)
    refine lv_i2l hx hb dL_payFines_8 rfl ?_
    refine W.last hx hb ho1 ((hK.2 5 _ rfl).1 1 (fun j => .long (f j))) (fun q => by cases q) (by show ¬ ((0 : Int32) < 0 ∨ (arrV _ _ _).slots.size ≤ _); rw [arrV_size]; exact (by unfold vp_in; decide : vp_in 0 1)) rfl rfl dL_payFines_9 fun H2 e2 z oq => ?_
    have hno : ∀ g c, dX g c → ad g c ≠ o := fun g c hd e => ho ⟨g, c, hd, e.symm⟩
    have hP2 : PX SX Γ ad q.2.2 H2 := fun g c hd => (hB g c hd).kept (oq _ (hno g c hd))
    have ho2 : va_at Γ.1 vwCl (oC Γ o (vp_updL f 0 q.2.1.toInt64)) H2 := out_put e2
    have hS2 := hS.put (k := (0 : Int32).toNatClampNeg) z oq (Or.inr rfl : (fun z => AXs ad z ∨ z = o) o)
    refine W.eq (g2 := F0 m 10 ls []) rfl ?_
    refine lv_goto (tgt := 25) hx hb dL_payFines_10 (by decide) ?_
    refine lv_iconst (v := 0) hx hb dL_payFines_25 (by decide) ?_
    refine W.widen (k := 3) (n := 18) (Nat.le_of_ble_eq_true rfl) (Nat.le_of_ble_eq_true rfl) ?_
    refine vx_ret ?_
    exact W.iret (v := 0) hx hb hr (fun t ht hW => ⟨⟨0, (), rfl, Or.inl ⟨hq0, rfl⟩, by rw [ht]; exact hP2, _, by rw [ht]; exact ho2, fun _ => by unfold vp_updL; exact if_pos rfl⟩, hS2.F ht⟩) hS2.2.2 dL_payFines_26
theorem mwL_63 : MWv RL 63 yX11_pass cX11_pass 2 (some .int) 1 := ⟨gw_t (tin6 (List.mem_of_getElem? (i := 48) rfl)) rfl, gw_t (tin6 (List.mem_of_getElem? (i := 49) rfl)) rfl, gw_t (tin6 (List.mem_of_getElem? (i := 50) rfl)) rfl, gw_t (tin1 (List.mem_of_getElem? (i := 1) rfl)) rfl, gw_t (tin6 (List.mem_of_getElem? (i := 51) rfl)) rfl, by decide, by decide, by decide +kernel⟩
set_option maxHeartbeats 4000000 in
set_option maxRecDepth 100000 in
theorem wL_pass (l : Launch) (hst : l.stackTraces = false) (Γ : Wc) (ad : Nat → Nat → Nat) (o : Nat) (p1 : Int32) (σ : Sig) (q : Xe) (hF : f11_pass p1 σ = some q) (hq : q.1 = 0 ∨ q.1 = 1 ∨ q.1 = 3) : MWr l Γ ad o yL_pass cL_pass 4 [(0, 9, 12, 13), (0, 9, 15, 28)] 8 133 2 [.ref (ad 0 0), .int p1, .ref o] σ q [1, 3] := by
  refine vx_ofWH (by decide) rfl ?_
  intro p e s m args below meth c s₁ B hml hv
  obtain ⟨rfl, ⟨hP, hK, hA, hZ, hV⟩, ⟨f, hf⟩, ho, hNC⟩ := hv
  have hx := B.exec
  have hb := B.bytes
  have hr := B.returns
  have hnl := B.notSynchronized
  have hts := atoms_spec (ws := .codeWith yL_pass cL_pass 4 (some .int) [(0, 9, 12, 13), (0, 9, 15, 28)] :: gw) B.pre
  have htg : ∀ w ∈ gw, w.before _ s = true := fun w h => hts w (List.mem_cons_of_mem _ h)
  have hown : s.vm.findClass RL = some m.cls := findClass_of_methodNamed B.named
  have htab := vx_table (x := yL_pass) B (hts _ List.mem_cons_self)
  have cx : CX SX Γ ad (AXs ad) RL cL_pass 4 p s m _ c := ⟨hx, hb, hml, hown, htg, hK, hA, hZ, hV⟩
  have hPS : PS SX Γ ad (AXs ad) s σ s.heap [] := ⟨hP, va_S.rf⟩
  have hS : va_S (fun z => AXs ad z ∨ z = o) s.heap s.heap [] := va_S.rf
  have hl := lv_entry ([.ref (ad 0 0), .int p1, .ref o]) (n := 4) (Nat.le_of_ble_eq_true rfl)
  rw [lg_entry_eq]
  generalize (lg_sl ([.ref (ad 0 0), .int p1, .ref o]) ++ List.replicate (4 - (lg_sl ([.ref (ad 0 0), .int p1, .ref o])).length) Slot.unset).toArray = ls at hl ⊢
  have hl : lv_has ls 4 [(0, .ref (ad 0 0)), (1, .int p1), (2, .ref o)] := hl
  refine lv_aload_n hx hb dL_pass_0 rfl (lv_at hl 2 rfl) ?_
  refine lv_iconst (v := 0) hx hb dL_pass_1 (by decide) ?_
  refine lv_aload_n hx hb dL_pass_2 rfl (lv_at hl 0 rfl) ?_
  refine lv_iload_n hx hb dL_pass_3 rfl (lv_at hl 1 rfl) ?_
  refine vx_calli (vx_runV (As := [.int p1]) (rest := [.int 0, .ref o]) (fixOf cx) (w11_pass l hst Γ ad (AXs ad) p1 σ q hF) (mwL_63.callB cx ⟨Nat.le_of_ble_eq_true rfl, Nat.le_of_ble_eq_true rfl⟩) ⟨Pre.blind, recvOf cx hPS (dXr (by decide)) rfl rfl, fun U hU hW => ⟨rfl, cx.pre hPS hU hW⟩⟩ rfl rfl hl.1 rfl (lv_room (Nat.le_of_ble_eq_true rfl)) dL_pass_4 ⟨Nat.le_of_ble_eq_true rfl, Nat.le_of_ble_eq_true rfl⟩) hS (fun q _ h => Or.inl h) (fun q h => Or.inl h) (fun q _ h => Or.inl h) (fun E ce q9 u t H1 locs1 ht hvm hu hb' hz hf' hS hce hcv hcl => ?_) (fun r u t H1 locs1 ht hvm hw hB hz1 hk1 hS => ?_)
  · have ho1 := hf.kept (by rw [hf' o hf.lt ho])
    obtain ⟨hE, hB⟩ := hb'
    rw [ht] at hB
    have hu0 : q.1 ≠ 0 := hu
    refine vx_widen (k := 2) (n := 12) (Nat.le_of_ble_eq_true rfl) (Nat.le_of_ble_eq_true rfl) ?_
    rcases hq with h | h | h
    · exact absurd h hu0
    · rw [h] at hE
      cases hE
      refine vx_catch hown [] _ _ htab (fun z hz => nomatch hz) (by decide) (by decide) (htg (.classLink RL 13 "java/lang/IllegalArgumentException") (gw_t (tin5 (List.mem_of_getElem? (i := 8) rfl)) rfl)) (va_Nw.use rfl (hV.1 _ (List.mem_filter.mpr ⟨(tin5 (List.mem_of_getElem? (i := 18) rfl)), rfl⟩))) hce hcv hcl ?_
      refine lv_astore_n (lv' := [(3, .ref q9), (0, .ref (ad 0 0)), (1, .int p1), (2, .ref o)]) hx hb dL_pass_12 rfl hl (by decide) rfl (fun ls hl => ?_)
      refine lv_iconst (v := 1) hx hb dL_pass_13 (by decide) ?_
      refine vx_ret ?_
      exact W.iret (v := 1) hx hb hr (fun t ht hW => ⟨⟨1, (), rfl, Or.inr ⟨0, by rw [h]; rfl, hu0, rfl⟩, by rw [ht]; exact hB, f, by rw [ht]; exact ho1, fun e => absurd e hu0⟩, hS.F ht⟩) hS.2.2 dL_pass_14
    · rw [h] at hE
      cases hE
      refine vx_catch hown [_] _ _ htab (fun z hz => Or.inr ⟨by rw [List.mem_singleton.mp hz]; decide, "java/lang/IllegalArgumentException", by rw [List.mem_singleton.mp hz]; exact htg (.classLink RL 13 "java/lang/IllegalArgumentException") (gw_t (tin5 (List.mem_of_getElem? (i := 8) rfl)) rfl), hNC 3 (by decide) (by decide) 1 (by decide) (by decide) (by decide)⟩) (by decide) (by decide) (htg (.classLink RL 28 "java/lang/IllegalStateException") (gw_t (tin5 (List.mem_of_getElem? (i := 126) rfl)) rfl)) (va_Nw.use rfl (hV.1 _ (List.mem_filter.mpr ⟨(tin5 (List.mem_of_getElem? (i := 137) rfl)), rfl⟩))) hce hcv hcl ?_
      refine lv_astore_n (lv' := [(3, .ref q9), (0, .ref (ad 0 0)), (1, .int p1), (2, .ref o)]) hx hb dL_pass_15 rfl hl (by decide) rfl (fun ls hl => ?_)
      refine lv_iconst (v := 2) hx hb dL_pass_16 (by decide) ?_
      refine vx_ret ?_
      exact W.iret (v := 2) hx hb hr (fun t ht hW => ⟨⟨2, (), rfl, Or.inr ⟨1, by rw [h]; rfl, hu0, rfl⟩, by rw [ht]; exact hB, f, by rw [ht]; exact ho1, fun e => absurd e hu0⟩, hS.F ht⟩) hS.2.2 dL_pass_17
  · obtain ⟨hq0, rfl⟩ := hw
    rw [ht] at hB
    have ho1 := hf.kept (hk1 o hf.lt ho)
    refine lv_i2l hx hb dL_pass_7 rfl ?_
    refine W.last hx hb ho1 ((hK.2 5 _ rfl).1 1 (fun j => .long (f j))) (fun q => by cases q) (by show ¬ ((0 : Int32) < 0 ∨ (arrV _ _ _).slots.size ≤ _); rw [arrV_size]; exact (by unfold vp_in; decide : vp_in 0 1)) rfl rfl dL_pass_8 fun H2 e2 z oq => ?_
    have hno : ∀ g c, dX g c → ad g c ≠ o := fun g c hd e => ho ⟨g, c, hd, e.symm⟩
    have hP2 : PX SX Γ ad q.2.2 H2 := fun g c hd => (hB g c hd).kept (oq _ (hno g c hd))
    have ho2 : va_at Γ.1 vwCl (oC Γ o (vp_updL f 0 q.2.1.toInt64)) H2 := out_put e2
    have hS2 := hS.put (k := (0 : Int32).toNatClampNeg) z oq (Or.inr rfl : (fun z => AXs ad z ∨ z = o) o)
    refine W.eq (g2 := F0 m 9 ls []) rfl ?_
    refine lv_goto (tgt := 18) hx hb dL_pass_9 (by decide) ?_
    refine lv_iconst (v := 0) hx hb dL_pass_18 (by decide) ?_
    refine W.widen (k := 2) (n := 12) (Nat.le_of_ble_eq_true rfl) (Nat.le_of_ble_eq_true rfl) ?_
    refine vx_ret ?_
    exact W.iret (v := 0) hx hb hr (fun t ht hW => ⟨⟨0, (), rfl, Or.inl ⟨hq0, rfl⟩, by rw [ht]; exact hP2, _, by rw [ht]; exact ho2, fun _ => by unfold vp_updL; exact if_pos rfl⟩, hS2.F ht⟩) hS2.2.2 dL_pass_19
theorem mwL_66 : MWv RL 66 yX11_restoreSnapshot cX11_restoreSnapshot 1 (some .int) 0 := ⟨gw_t (tin6 (List.mem_of_getElem? (i := 58) rfl)) rfl, gw_t (tin6 (List.mem_of_getElem? (i := 59) rfl)) rfl, gw_t (tin6 (List.mem_of_getElem? (i := 60) rfl)) rfl, gw_t (tin1 (List.mem_of_getElem? (i := 1) rfl)) rfl, gw_t (tin6 (List.mem_of_getElem? (i := 61) rfl)) rfl, by decide, by decide, by decide +kernel⟩
set_option maxHeartbeats 4000000 in
set_option maxRecDepth 100000 in
theorem wL_restoreSnapshot (l : Launch) (hst : l.stackTraces = false) (Γ : Wc) (ad : Nat → Nat → Nat) (o : Nat) (σ : Sig) (q : Xe) (hF : f11_restoreSnapshot  σ = some q) (hq : q.1 = 0 ∨ q.1 = 4) : MWr l Γ ad o yL_restoreSnapshot cL_restoreSnapshot 3 [(0, 8, 11, 70)] 7 110 1 [.ref (ad 0 0), .ref o] σ q [4] := by
  refine vx_ofWH (by decide) rfl ?_
  intro p e s m args below meth c s₁ B hml hv
  obtain ⟨rfl, ⟨hP, hK, hA, hZ, hV⟩, ⟨f, hf⟩, ho, hNC⟩ := hv
  have hx := B.exec
  have hb := B.bytes
  have hr := B.returns
  have hnl := B.notSynchronized
  have hts := atoms_spec (ws := .codeWith yL_restoreSnapshot cL_restoreSnapshot 3 (some .int) [(0, 8, 11, 70)] :: gw) B.pre
  have htg : ∀ w ∈ gw, w.before _ s = true := fun w h => hts w (List.mem_cons_of_mem _ h)
  have hown : s.vm.findClass RL = some m.cls := findClass_of_methodNamed B.named
  have htab := vx_table (x := yL_restoreSnapshot) B (hts _ List.mem_cons_self)
  have cx : CX SX Γ ad (AXs ad) RL cL_restoreSnapshot 3 p s m _ c := ⟨hx, hb, hml, hown, htg, hK, hA, hZ, hV⟩
  have hPS : PS SX Γ ad (AXs ad) s σ s.heap [] := ⟨hP, va_S.rf⟩
  have hS : va_S (fun z => AXs ad z ∨ z = o) s.heap s.heap [] := va_S.rf
  have hl := lv_entry ([.ref (ad 0 0), .ref o]) (n := 3) (Nat.le_of_ble_eq_true rfl)
  rw [lg_entry_eq]
  generalize (lg_sl ([.ref (ad 0 0), .ref o]) ++ List.replicate (3 - (lg_sl ([.ref (ad 0 0), .ref o])).length) Slot.unset).toArray = ls at hl ⊢
  have hl : lv_has ls 3 [(0, .ref (ad 0 0)), (1, .ref o)] := hl
  refine lv_aload_n hx hb dL_restoreSnapshot_0 rfl (lv_at hl 1 rfl) ?_
  refine lv_iconst (v := 0) hx hb dL_restoreSnapshot_1 (by decide) ?_
  refine lv_aload_n hx hb dL_restoreSnapshot_2 rfl (lv_at hl 0 rfl) ?_
  refine vx_calli (vx_runV (As := []) (rest := [.int 0, .ref o]) (fixOf cx) (w11_restoreSnapshot l hst Γ ad (AXs ad)  σ q hF) (mwL_66.callB cx ⟨Nat.le_of_ble_eq_true rfl, Nat.le_of_ble_eq_true rfl⟩) ⟨Pre.blind, recvOf cx hPS (dXr (by decide)) rfl rfl, fun U hU hW => ⟨rfl, cx.pre hPS hU hW⟩⟩ rfl rfl hl.1 rfl (lv_room (Nat.le_of_ble_eq_true rfl)) dL_restoreSnapshot_3 ⟨Nat.le_of_ble_eq_true rfl, Nat.le_of_ble_eq_true rfl⟩) hS (fun q _ h => Or.inl h) (fun q h => Or.inl h) (fun q _ h => Or.inl h) (fun E ce q9 u t H1 locs1 ht hvm hu hb' hz hf' hS hce hcv hcl => ?_) (fun r u t H1 locs1 ht hvm hw hB hz1 hk1 hS => ?_)
  · have ho1 := hf.kept (by rw [hf' o hf.lt ho])
    obtain ⟨hE, hB⟩ := hb'
    rw [ht] at hB
    have hu0 : q.1 ≠ 0 := hu
    refine vx_widen (k := 1) (n := 6) (Nat.le_of_ble_eq_true rfl) (Nat.le_of_ble_eq_true rfl) ?_
    rcases hq with h | h
    · exact absurd h hu0
    · rw [h] at hE
      cases hE
      refine vx_catch hown [] _ _ htab (fun z hz => nomatch hz) (by decide) (by decide) (htg (.classLink RL 70 "java/util/NoSuchElementException") (gw_t (tin6 (List.mem_of_getElem? (i := 57) rfl)) rfl)) (va_Nw.use rfl (hV.1 _ (List.mem_filter.mpr ⟨(tin6 (List.mem_of_getElem? (i := 64) rfl)), rfl⟩))) hce hcv hcl ?_
      refine lv_astore_n (lv' := [(2, .ref q9), (0, .ref (ad 0 0)), (1, .ref o)]) hx hb dL_restoreSnapshot_11 rfl hl (by decide) rfl (fun ls hl => ?_)
      refine lv_iconst (v := 1) hx hb dL_restoreSnapshot_12 (by decide) ?_
      refine vx_ret ?_
      exact W.iret (v := 1) hx hb hr (fun t ht hW => ⟨⟨1, (), rfl, Or.inr ⟨0, by rw [h]; rfl, hu0, rfl⟩, by rw [ht]; exact hB, f, by rw [ht]; exact ho1, fun e => absurd e hu0⟩, hS.F ht⟩) hS.2.2 dL_restoreSnapshot_13
  · obtain ⟨hq0, rfl⟩ := hw
    rw [ht] at hB
    have ho1 := hf.kept (hk1 o hf.lt ho)
    refine lv_i2l hx hb dL_restoreSnapshot_6 rfl ?_
    refine W.last hx hb ho1 ((hK.2 5 _ rfl).1 1 (fun j => .long (f j))) (fun q => by cases q) (by show ¬ ((0 : Int32) < 0 ∨ (arrV _ _ _).slots.size ≤ _); rw [arrV_size]; exact (by unfold vp_in; decide : vp_in 0 1)) rfl rfl dL_restoreSnapshot_7 fun H2 e2 z oq => ?_
    have hno : ∀ g c, dX g c → ad g c ≠ o := fun g c hd e => ho ⟨g, c, hd, e.symm⟩
    have hP2 : PX SX Γ ad q.2.2 H2 := fun g c hd => (hB g c hd).kept (oq _ (hno g c hd))
    have ho2 : va_at Γ.1 vwCl (oC Γ o (vp_updL f 0 q.2.1.toInt64)) H2 := out_put e2
    have hS2 := hS.put (k := (0 : Int32).toNatClampNeg) z oq (Or.inr rfl : (fun z => AXs ad z ∨ z = o) o)
    refine W.eq (g2 := F0 m 8 ls []) rfl ?_
    refine lv_goto (tgt := 14) hx hb dL_restoreSnapshot_8 (by decide) ?_
    refine lv_iconst (v := 0) hx hb dL_restoreSnapshot_14 (by decide) ?_
    refine W.widen (k := 1) (n := 6) (Nat.le_of_ble_eq_true rfl) (Nat.le_of_ble_eq_true rfl) ?_
    refine vx_ret ?_
    exact W.iret (v := 0) hx hb hr (fun t ht hW => ⟨⟨0, (), rfl, Or.inl ⟨hq0, rfl⟩, by rw [ht]; exact hP2, _, by rw [ht]; exact ho2, fun _ => by unfold vp_updL; exact if_pos rfl⟩, hS2.F ht⟩) hS2.2.2 dL_restoreSnapshot_15
theorem mwL_72 : MWv RL 72 yX11_scentOf cX11_scentOf 2 (some .int) 1 := ⟨gw_t (tin6 (List.mem_of_getElem? (i := 85) rfl)) rfl, gw_t (tin6 (List.mem_of_getElem? (i := 86) rfl)) rfl, gw_t (tin6 (List.mem_of_getElem? (i := 87) rfl)) rfl, gw_t (tin1 (List.mem_of_getElem? (i := 1) rfl)) rfl, gw_t (tin6 (List.mem_of_getElem? (i := 88) rfl)) rfl, by decide, by decide, by decide +kernel⟩
set_option maxHeartbeats 4000000 in
set_option maxRecDepth 100000 in
theorem wL_scentOf (l : Launch) (hst : l.stackTraces = false) (Γ : Wc) (ad : Nat → Nat → Nat) (o : Nat) (p1 : Int32) (σ : Sig) (q : Xe) (hF : f11_scentOf p1 σ = some q) (hq : q.1 = 0 ∨ q.1 = 2) : MWr l Γ ad o yL_scentOf cL_scentOf 4 [(0, 9, 12, 19)] 8 132 1 [.ref (ad 0 0), .int p1, .ref o] σ q [2] := by
  refine vx_ofWH (by decide) rfl ?_
  intro p e s m args below meth c s₁ B hml hv
  obtain ⟨rfl, ⟨hP, hK, hA, hZ, hV⟩, ⟨f, hf⟩, ho, hNC⟩ := hv
  have hx := B.exec
  have hb := B.bytes
  have hr := B.returns
  have hnl := B.notSynchronized
  have hts := atoms_spec (ws := .codeWith yL_scentOf cL_scentOf 4 (some .int) [(0, 9, 12, 19)] :: gw) B.pre
  have htg : ∀ w ∈ gw, w.before _ s = true := fun w h => hts w (List.mem_cons_of_mem _ h)
  have hown : s.vm.findClass RL = some m.cls := findClass_of_methodNamed B.named
  have htab := vx_table (x := yL_scentOf) B (hts _ List.mem_cons_self)
  have cx : CX SX Γ ad (AXs ad) RL cL_scentOf 4 p s m _ c := ⟨hx, hb, hml, hown, htg, hK, hA, hZ, hV⟩
  have hPS : PS SX Γ ad (AXs ad) s σ s.heap [] := ⟨hP, va_S.rf⟩
  have hS : va_S (fun z => AXs ad z ∨ z = o) s.heap s.heap [] := va_S.rf
  have hl := lv_entry ([.ref (ad 0 0), .int p1, .ref o]) (n := 4) (Nat.le_of_ble_eq_true rfl)
  rw [lg_entry_eq]
  generalize (lg_sl ([.ref (ad 0 0), .int p1, .ref o]) ++ List.replicate (4 - (lg_sl ([.ref (ad 0 0), .int p1, .ref o])).length) Slot.unset).toArray = ls at hl ⊢
  have hl : lv_has ls 4 [(0, .ref (ad 0 0)), (1, .int p1), (2, .ref o)] := hl
  refine lv_aload_n hx hb dL_scentOf_0 rfl (lv_at hl 2 rfl) ?_
  refine lv_iconst (v := 0) hx hb dL_scentOf_1 (by decide) ?_
  refine lv_aload_n hx hb dL_scentOf_2 rfl (lv_at hl 0 rfl) ?_
  refine lv_iload_n hx hb dL_scentOf_3 rfl (lv_at hl 1 rfl) ?_
  refine vx_calli (vx_runV (As := [.int p1]) (rest := [.int 0, .ref o]) (fixOf cx) (w11_scentOf l hst Γ ad (AXs ad) p1 σ q hF) (mwL_72.callB cx ⟨Nat.le_of_ble_eq_true rfl, Nat.le_of_ble_eq_true rfl⟩) ⟨Pre.blind, recvOf cx hPS (dXr (by decide)) rfl rfl, fun U hU hW => ⟨rfl, cx.pre hPS hU hW⟩⟩ rfl rfl hl.1 rfl (lv_room (Nat.le_of_ble_eq_true rfl)) dL_scentOf_4 ⟨Nat.le_of_ble_eq_true rfl, Nat.le_of_ble_eq_true rfl⟩) hS (fun q _ h => Or.inl h) (fun q h => Or.inl h) (fun q _ h => Or.inl h) (fun E ce q9 u t H1 locs1 ht hvm hu hb' hz hf' hS hce hcv hcl => ?_) (fun r u t H1 locs1 ht hvm hw hB hz1 hk1 hS => ?_)
  · have ho1 := hf.kept (by rw [hf' o hf.lt ho])
    obtain ⟨hE, hB⟩ := hb'
    rw [ht] at hB
    have hu0 : q.1 ≠ 0 := hu
    refine vx_widen (k := 1) (n := 6) (Nat.le_of_ble_eq_true rfl) (Nat.le_of_ble_eq_true rfl) ?_
    rcases hq with h | h
    · exact absurd h hu0
    · rw [h] at hE
      cases hE
      refine vx_catch hown [] _ _ htab (fun z hz => nomatch hz) (by decide) (by decide) (htg (.classLink RL 19 "java/lang/IndexOutOfBoundsException") (gw_t (tin5 (List.mem_of_getElem? (i := 87) rfl)) rfl)) (va_Nw.use rfl (hV.1 _ (List.mem_filter.mpr ⟨(tin5 (List.mem_of_getElem? (i := 102) rfl)), rfl⟩))) hce hcv hcl ?_
      refine lv_astore_n (lv' := [(3, .ref q9), (0, .ref (ad 0 0)), (1, .int p1), (2, .ref o)]) hx hb dL_scentOf_12 rfl hl (by decide) rfl (fun ls hl => ?_)
      refine lv_iconst (v := 1) hx hb dL_scentOf_13 (by decide) ?_
      refine vx_ret ?_
      exact W.iret (v := 1) hx hb hr (fun t ht hW => ⟨⟨1, (), rfl, Or.inr ⟨0, by rw [h]; rfl, hu0, rfl⟩, by rw [ht]; exact hB, f, by rw [ht]; exact ho1, fun e => absurd e hu0⟩, hS.F ht⟩) hS.2.2 dL_scentOf_14
  · obtain ⟨hq0, rfl⟩ := hw
    rw [ht] at hB
    have ho1 := hf.kept (hk1 o hf.lt ho)
    refine lv_i2l hx hb dL_scentOf_7 rfl ?_
    refine W.last hx hb ho1 ((hK.2 5 _ rfl).1 1 (fun j => .long (f j))) (fun q => by cases q) (by show ¬ ((0 : Int32) < 0 ∨ (arrV _ _ _).slots.size ≤ _); rw [arrV_size]; exact (by unfold vp_in; decide : vp_in 0 1)) rfl rfl dL_scentOf_8 fun H2 e2 z oq => ?_
    have hno : ∀ g c, dX g c → ad g c ≠ o := fun g c hd e => ho ⟨g, c, hd, e.symm⟩
    have hP2 : PX SX Γ ad q.2.2 H2 := fun g c hd => (hB g c hd).kept (oq _ (hno g c hd))
    have ho2 : va_at Γ.1 vwCl (oC Γ o (vp_updL f 0 q.2.1.toInt64)) H2 := out_put e2
    have hS2 := hS.put (k := (0 : Int32).toNatClampNeg) z oq (Or.inr rfl : (fun z => AXs ad z ∨ z = o) o)
    refine W.eq (g2 := F0 m 9 ls []) rfl ?_
    refine lv_goto (tgt := 15) hx hb dL_scentOf_9 (by decide) ?_
    refine lv_iconst (v := 0) hx hb dL_scentOf_15 (by decide) ?_
    refine W.widen (k := 1) (n := 6) (Nat.le_of_ble_eq_true rfl) (Nat.le_of_ble_eq_true rfl) ?_
    refine vx_ret ?_
    exact W.iret (v := 0) hx hb hr (fun t ht hW => ⟨⟨0, (), rfl, Or.inl ⟨hq0, rfl⟩, by rw [ht]; exact hP2, _, by rw [ht]; exact ho2, fun _ => by unfold vp_updL; exact if_pos rfl⟩, hS2.F ht⟩) hS2.2.2 dL_scentOf_16
theorem mwL_79 : MWv RL 79 yX11_blooms cX11_blooms 2 (some .int) 1 := ⟨gw_t (tin6 (List.mem_of_getElem? (i := 100) rfl)) rfl, gw_t (tin6 (List.mem_of_getElem? (i := 101) rfl)) rfl, gw_t (tin6 (List.mem_of_getElem? (i := 102) rfl)) rfl, gw_t (tin1 (List.mem_of_getElem? (i := 1) rfl)) rfl, gw_t (tin6 (List.mem_of_getElem? (i := 103) rfl)) rfl, by decide, by decide, by decide +kernel⟩
set_option maxHeartbeats 4000000 in
set_option maxRecDepth 100000 in
theorem wL_blooms (l : Launch) (hst : l.stackTraces = false) (Γ : Wc) (ad : Nat → Nat → Nat) (o : Nat) (p1 : Int32) (σ : Sig) (q : Xe) (hF : f11_blooms p1 σ = some q) (hq : q.1 = 0 ∨ q.1 = 2) : MWr l Γ ad o yL_blooms cL_blooms 4 [(0, 9, 12, 19)] 8 132 1 [.ref (ad 0 0), .int p1, .ref o] σ q [2] := by
  refine vx_ofWH (by decide) rfl ?_
  intro p e s m args below meth c s₁ B hml hv
  obtain ⟨rfl, ⟨hP, hK, hA, hZ, hV⟩, ⟨f, hf⟩, ho, hNC⟩ := hv
  have hx := B.exec
  have hb := B.bytes
  have hr := B.returns
  have hnl := B.notSynchronized
  have hts := atoms_spec (ws := .codeWith yL_blooms cL_blooms 4 (some .int) [(0, 9, 12, 19)] :: gw) B.pre
  have htg : ∀ w ∈ gw, w.before _ s = true := fun w h => hts w (List.mem_cons_of_mem _ h)
  have hown : s.vm.findClass RL = some m.cls := findClass_of_methodNamed B.named
  have htab := vx_table (x := yL_blooms) B (hts _ List.mem_cons_self)
  have cx : CX SX Γ ad (AXs ad) RL cL_blooms 4 p s m _ c := ⟨hx, hb, hml, hown, htg, hK, hA, hZ, hV⟩
  have hPS : PS SX Γ ad (AXs ad) s σ s.heap [] := ⟨hP, va_S.rf⟩
  have hS : va_S (fun z => AXs ad z ∨ z = o) s.heap s.heap [] := va_S.rf
  have hl := lv_entry ([.ref (ad 0 0), .int p1, .ref o]) (n := 4) (Nat.le_of_ble_eq_true rfl)
  rw [lg_entry_eq]
  generalize (lg_sl ([.ref (ad 0 0), .int p1, .ref o]) ++ List.replicate (4 - (lg_sl ([.ref (ad 0 0), .int p1, .ref o])).length) Slot.unset).toArray = ls at hl ⊢
  have hl : lv_has ls 4 [(0, .ref (ad 0 0)), (1, .int p1), (2, .ref o)] := hl
  refine lv_aload_n hx hb dL_blooms_0 rfl (lv_at hl 2 rfl) ?_
  refine lv_iconst (v := 0) hx hb dL_blooms_1 (by decide) ?_
  refine lv_aload_n hx hb dL_blooms_2 rfl (lv_at hl 0 rfl) ?_
  refine lv_iload_n hx hb dL_blooms_3 rfl (lv_at hl 1 rfl) ?_
  refine vx_calli (vx_runV (As := [.int p1]) (rest := [.int 0, .ref o]) (fixOf cx) (w11_blooms l hst Γ ad (AXs ad) p1 σ q hF) (mwL_79.callB cx ⟨Nat.le_of_ble_eq_true rfl, Nat.le_of_ble_eq_true rfl⟩) ⟨Pre.blind, recvOf cx hPS (dXr (by decide)) rfl rfl, fun U hU hW => ⟨rfl, cx.pre hPS hU hW⟩⟩ rfl rfl hl.1 rfl (lv_room (Nat.le_of_ble_eq_true rfl)) dL_blooms_4 ⟨Nat.le_of_ble_eq_true rfl, Nat.le_of_ble_eq_true rfl⟩) hS (fun q _ h => Or.inl h) (fun q h => Or.inl h) (fun q _ h => Or.inl h) (fun E ce q9 u t H1 locs1 ht hvm hu hb' hz hf' hS hce hcv hcl => ?_) (fun r u t H1 locs1 ht hvm hw hB hz1 hk1 hS => ?_)
  · have ho1 := hf.kept (by rw [hf' o hf.lt ho])
    obtain ⟨hE, hB⟩ := hb'
    rw [ht] at hB
    have hu0 : q.1 ≠ 0 := hu
    refine vx_widen (k := 1) (n := 6) (Nat.le_of_ble_eq_true rfl) (Nat.le_of_ble_eq_true rfl) ?_
    rcases hq with h | h
    · exact absurd h hu0
    · rw [h] at hE
      cases hE
      refine vx_catch hown [] _ _ htab (fun z hz => nomatch hz) (by decide) (by decide) (htg (.classLink RL 19 "java/lang/IndexOutOfBoundsException") (gw_t (tin5 (List.mem_of_getElem? (i := 87) rfl)) rfl)) (va_Nw.use rfl (hV.1 _ (List.mem_filter.mpr ⟨(tin5 (List.mem_of_getElem? (i := 102) rfl)), rfl⟩))) hce hcv hcl ?_
      refine lv_astore_n (lv' := [(3, .ref q9), (0, .ref (ad 0 0)), (1, .int p1), (2, .ref o)]) hx hb dL_blooms_12 rfl hl (by decide) rfl (fun ls hl => ?_)
      refine lv_iconst (v := 1) hx hb dL_blooms_13 (by decide) ?_
      refine vx_ret ?_
      exact W.iret (v := 1) hx hb hr (fun t ht hW => ⟨⟨1, (), rfl, Or.inr ⟨0, by rw [h]; rfl, hu0, rfl⟩, by rw [ht]; exact hB, f, by rw [ht]; exact ho1, fun e => absurd e hu0⟩, hS.F ht⟩) hS.2.2 dL_blooms_14
  · obtain ⟨hq0, rfl⟩ := hw
    rw [ht] at hB
    have ho1 := hf.kept (hk1 o hf.lt ho)
    refine lv_i2l hx hb dL_blooms_7 rfl ?_
    refine W.last hx hb ho1 ((hK.2 5 _ rfl).1 1 (fun j => .long (f j))) (fun q => by cases q) (by show ¬ ((0 : Int32) < 0 ∨ (arrV _ _ _).slots.size ≤ _); rw [arrV_size]; exact (by unfold vp_in; decide : vp_in 0 1)) rfl rfl dL_blooms_8 fun H2 e2 z oq => ?_
    have hno : ∀ g c, dX g c → ad g c ≠ o := fun g c hd e => ho ⟨g, c, hd, e.symm⟩
    have hP2 : PX SX Γ ad q.2.2 H2 := fun g c hd => (hB g c hd).kept (oq _ (hno g c hd))
    have ho2 : va_at Γ.1 vwCl (oC Γ o (vp_updL f 0 q.2.1.toInt64)) H2 := out_put e2
    have hS2 := hS.put (k := (0 : Int32).toNatClampNeg) z oq (Or.inr rfl : (fun z => AXs ad z ∨ z = o) o)
    refine W.eq (g2 := F0 m 9 ls []) rfl ?_
    refine lv_goto (tgt := 15) hx hb dL_blooms_9 (by decide) ?_
    refine lv_iconst (v := 0) hx hb dL_blooms_15 (by decide) ?_
    refine W.widen (k := 1) (n := 6) (Nat.le_of_ble_eq_true rfl) (Nat.le_of_ble_eq_true rfl) ?_
    refine vx_ret ?_
    exact W.iret (v := 0) hx hb hr (fun t ht hW => ⟨⟨0, (), rfl, Or.inl ⟨hq0, rfl⟩, by rw [ht]; exact hP2, _, by rw [ht]; exact ho2, fun _ => by unfold vp_updL; exact if_pos rfl⟩, hS2.F ht⟩) hS2.2.2 dL_blooms_16
theorem mwL_82 : MWv RL 82 yX11_placesLeft cX11_placesLeft 2 (some .int) 1 := ⟨gw_t (tin6 (List.mem_of_getElem? (i := 107) rfl)) rfl, gw_t (tin6 (List.mem_of_getElem? (i := 108) rfl)) rfl, gw_t (tin6 (List.mem_of_getElem? (i := 109) rfl)) rfl, gw_t (tin1 (List.mem_of_getElem? (i := 1) rfl)) rfl, gw_t (tin6 (List.mem_of_getElem? (i := 110) rfl)) rfl, by decide, by decide, by decide +kernel⟩
set_option maxHeartbeats 4000000 in
set_option maxRecDepth 100000 in
theorem wL_placesLeft (l : Launch) (hst : l.stackTraces = false) (Γ : Wc) (ad : Nat → Nat → Nat) (o : Nat) (p1 : Int32) (σ : Sig) (q : Xe) (hF : f11_placesLeft p1 σ = some q) (hq : q.1 = 0 ∨ q.1 = 2) : MWr l Γ ad o yL_placesLeft cL_placesLeft 4 [(0, 9, 12, 19)] 8 132 1 [.ref (ad 0 0), .int p1, .ref o] σ q [2] := by
  refine vx_ofWH (by decide) rfl ?_
  intro p e s m args below meth c s₁ B hml hv
  obtain ⟨rfl, ⟨hP, hK, hA, hZ, hV⟩, ⟨f, hf⟩, ho, hNC⟩ := hv
  have hx := B.exec
  have hb := B.bytes
  have hr := B.returns
  have hnl := B.notSynchronized
  have hts := atoms_spec (ws := .codeWith yL_placesLeft cL_placesLeft 4 (some .int) [(0, 9, 12, 19)] :: gw) B.pre
  have htg : ∀ w ∈ gw, w.before _ s = true := fun w h => hts w (List.mem_cons_of_mem _ h)
  have hown : s.vm.findClass RL = some m.cls := findClass_of_methodNamed B.named
  have htab := vx_table (x := yL_placesLeft) B (hts _ List.mem_cons_self)
  have cx : CX SX Γ ad (AXs ad) RL cL_placesLeft 4 p s m _ c := ⟨hx, hb, hml, hown, htg, hK, hA, hZ, hV⟩
  have hPS : PS SX Γ ad (AXs ad) s σ s.heap [] := ⟨hP, va_S.rf⟩
  have hS : va_S (fun z => AXs ad z ∨ z = o) s.heap s.heap [] := va_S.rf
  have hl := lv_entry ([.ref (ad 0 0), .int p1, .ref o]) (n := 4) (Nat.le_of_ble_eq_true rfl)
  rw [lg_entry_eq]
  generalize (lg_sl ([.ref (ad 0 0), .int p1, .ref o]) ++ List.replicate (4 - (lg_sl ([.ref (ad 0 0), .int p1, .ref o])).length) Slot.unset).toArray = ls at hl ⊢
  have hl : lv_has ls 4 [(0, .ref (ad 0 0)), (1, .int p1), (2, .ref o)] := hl
  refine lv_aload_n hx hb dL_placesLeft_0 rfl (lv_at hl 2 rfl) ?_
  refine lv_iconst (v := 0) hx hb dL_placesLeft_1 (by decide) ?_
  refine lv_aload_n hx hb dL_placesLeft_2 rfl (lv_at hl 0 rfl) ?_
  refine lv_iload_n hx hb dL_placesLeft_3 rfl (lv_at hl 1 rfl) ?_
  refine vx_calli (vx_runV (As := [.int p1]) (rest := [.int 0, .ref o]) (fixOf cx) (w11_placesLeft l hst Γ ad (AXs ad) p1 σ q hF) (mwL_82.callB cx ⟨Nat.le_of_ble_eq_true rfl, Nat.le_of_ble_eq_true rfl⟩) ⟨Pre.blind, recvOf cx hPS (dXr (by decide)) rfl rfl, fun U hU hW => ⟨rfl, cx.pre hPS hU hW⟩⟩ rfl rfl hl.1 rfl (lv_room (Nat.le_of_ble_eq_true rfl)) dL_placesLeft_4 ⟨Nat.le_of_ble_eq_true rfl, Nat.le_of_ble_eq_true rfl⟩) hS (fun q _ h => Or.inl h) (fun q h => Or.inl h) (fun q _ h => Or.inl h) (fun E ce q9 u t H1 locs1 ht hvm hu hb' hz hf' hS hce hcv hcl => ?_) (fun r u t H1 locs1 ht hvm hw hB hz1 hk1 hS => ?_)
  · have ho1 := hf.kept (by rw [hf' o hf.lt ho])
    obtain ⟨hE, hB⟩ := hb'
    rw [ht] at hB
    have hu0 : q.1 ≠ 0 := hu
    refine vx_widen (k := 1) (n := 6) (Nat.le_of_ble_eq_true rfl) (Nat.le_of_ble_eq_true rfl) ?_
    rcases hq with h | h
    · exact absurd h hu0
    · rw [h] at hE
      cases hE
      refine vx_catch hown [] _ _ htab (fun z hz => nomatch hz) (by decide) (by decide) (htg (.classLink RL 19 "java/lang/IndexOutOfBoundsException") (gw_t (tin5 (List.mem_of_getElem? (i := 87) rfl)) rfl)) (va_Nw.use rfl (hV.1 _ (List.mem_filter.mpr ⟨(tin5 (List.mem_of_getElem? (i := 102) rfl)), rfl⟩))) hce hcv hcl ?_
      refine lv_astore_n (lv' := [(3, .ref q9), (0, .ref (ad 0 0)), (1, .int p1), (2, .ref o)]) hx hb dL_placesLeft_12 rfl hl (by decide) rfl (fun ls hl => ?_)
      refine lv_iconst (v := 1) hx hb dL_placesLeft_13 (by decide) ?_
      refine vx_ret ?_
      exact W.iret (v := 1) hx hb hr (fun t ht hW => ⟨⟨1, (), rfl, Or.inr ⟨0, by rw [h]; rfl, hu0, rfl⟩, by rw [ht]; exact hB, f, by rw [ht]; exact ho1, fun e => absurd e hu0⟩, hS.F ht⟩) hS.2.2 dL_placesLeft_14
  · obtain ⟨hq0, rfl⟩ := hw
    rw [ht] at hB
    have ho1 := hf.kept (hk1 o hf.lt ho)
    refine lv_i2l hx hb dL_placesLeft_7 rfl ?_
    refine W.last hx hb ho1 ((hK.2 5 _ rfl).1 1 (fun j => .long (f j))) (fun q => by cases q) (by show ¬ ((0 : Int32) < 0 ∨ (arrV _ _ _).slots.size ≤ _); rw [arrV_size]; exact (by unfold vp_in; decide : vp_in 0 1)) rfl rfl dL_placesLeft_8 fun H2 e2 z oq => ?_
    have hno : ∀ g c, dX g c → ad g c ≠ o := fun g c hd e => ho ⟨g, c, hd, e.symm⟩
    have hP2 : PX SX Γ ad q.2.2 H2 := fun g c hd => (hB g c hd).kept (oq _ (hno g c hd))
    have ho2 : va_at Γ.1 vwCl (oC Γ o (vp_updL f 0 q.2.1.toInt64)) H2 := out_put e2
    have hS2 := hS.put (k := (0 : Int32).toNatClampNeg) z oq (Or.inr rfl : (fun z => AXs ad z ∨ z = o) o)
    refine W.eq (g2 := F0 m 9 ls []) rfl ?_
    refine lv_goto (tgt := 15) hx hb dL_placesLeft_9 (by decide) ?_
    refine lv_iconst (v := 0) hx hb dL_placesLeft_15 (by decide) ?_
    refine W.widen (k := 1) (n := 6) (Nat.le_of_ble_eq_true rfl) (Nat.le_of_ble_eq_true rfl) ?_
    refine vx_ret ?_
    exact W.iret (v := 0) hx hb hr (fun t ht hW => ⟨⟨0, (), rfl, Or.inl ⟨hq0, rfl⟩, by rw [ht]; exact hP2, _, by rw [ht]; exact ho2, fun _ => by unfold vp_updL; exact if_pos rfl⟩, hS2.F ht⟩) hS2.2.2 dL_placesLeft_16
theorem mwL_85 : MWv RL 85 yX11_visitsTo cX11_visitsTo 2 (some .int) 1 := ⟨gw_t (tin6 (List.mem_of_getElem? (i := 115) rfl)) rfl, gw_t (tin6 (List.mem_of_getElem? (i := 116) rfl)) rfl, gw_t (tin6 (List.mem_of_getElem? (i := 117) rfl)) rfl, gw_t (tin1 (List.mem_of_getElem? (i := 1) rfl)) rfl, gw_t (tin6 (List.mem_of_getElem? (i := 118) rfl)) rfl, by decide, by decide, by decide +kernel⟩
set_option maxHeartbeats 4000000 in
set_option maxRecDepth 100000 in
theorem wL_visitsTo (l : Launch) (hst : l.stackTraces = false) (Γ : Wc) (ad : Nat → Nat → Nat) (o : Nat) (p1 : Int32) (σ : Sig) (q : Xe) (hF : f11_visitsTo p1 σ = some q) (hq : q.1 = 0 ∨ q.1 = 2) : MWr l Γ ad o yL_visitsTo cL_visitsTo 4 [(0, 9, 12, 19)] 8 132 1 [.ref (ad 0 0), .int p1, .ref o] σ q [2] := by
  refine vx_ofWH (by decide) rfl ?_
  intro p e s m args below meth c s₁ B hml hv
  obtain ⟨rfl, ⟨hP, hK, hA, hZ, hV⟩, ⟨f, hf⟩, ho, hNC⟩ := hv
  have hx := B.exec
  have hb := B.bytes
  have hr := B.returns
  have hnl := B.notSynchronized
  have hts := atoms_spec (ws := .codeWith yL_visitsTo cL_visitsTo 4 (some .int) [(0, 9, 12, 19)] :: gw) B.pre
  have htg : ∀ w ∈ gw, w.before _ s = true := fun w h => hts w (List.mem_cons_of_mem _ h)
  have hown : s.vm.findClass RL = some m.cls := findClass_of_methodNamed B.named
  have htab := vx_table (x := yL_visitsTo) B (hts _ List.mem_cons_self)
  have cx : CX SX Γ ad (AXs ad) RL cL_visitsTo 4 p s m _ c := ⟨hx, hb, hml, hown, htg, hK, hA, hZ, hV⟩
  have hPS : PS SX Γ ad (AXs ad) s σ s.heap [] := ⟨hP, va_S.rf⟩
  have hS : va_S (fun z => AXs ad z ∨ z = o) s.heap s.heap [] := va_S.rf
  have hl := lv_entry ([.ref (ad 0 0), .int p1, .ref o]) (n := 4) (Nat.le_of_ble_eq_true rfl)
  rw [lg_entry_eq]
  generalize (lg_sl ([.ref (ad 0 0), .int p1, .ref o]) ++ List.replicate (4 - (lg_sl ([.ref (ad 0 0), .int p1, .ref o])).length) Slot.unset).toArray = ls at hl ⊢
  have hl : lv_has ls 4 [(0, .ref (ad 0 0)), (1, .int p1), (2, .ref o)] := hl
  refine lv_aload_n hx hb dL_visitsTo_0 rfl (lv_at hl 2 rfl) ?_
  refine lv_iconst (v := 0) hx hb dL_visitsTo_1 (by decide) ?_
  refine lv_aload_n hx hb dL_visitsTo_2 rfl (lv_at hl 0 rfl) ?_
  refine lv_iload_n hx hb dL_visitsTo_3 rfl (lv_at hl 1 rfl) ?_
  refine vx_calli (vx_runV (As := [.int p1]) (rest := [.int 0, .ref o]) (fixOf cx) (w11_visitsTo l hst Γ ad (AXs ad) p1 σ q hF) (mwL_85.callB cx ⟨Nat.le_of_ble_eq_true rfl, Nat.le_of_ble_eq_true rfl⟩) ⟨Pre.blind, recvOf cx hPS (dXr (by decide)) rfl rfl, fun U hU hW => ⟨rfl, cx.pre hPS hU hW⟩⟩ rfl rfl hl.1 rfl (lv_room (Nat.le_of_ble_eq_true rfl)) dL_visitsTo_4 ⟨Nat.le_of_ble_eq_true rfl, Nat.le_of_ble_eq_true rfl⟩) hS (fun q _ h => Or.inl h) (fun q h => Or.inl h) (fun q _ h => Or.inl h) (fun E ce q9 u t H1 locs1 ht hvm hu hb' hz hf' hS hce hcv hcl => ?_) (fun r u t H1 locs1 ht hvm hw hB hz1 hk1 hS => ?_)
  · have ho1 := hf.kept (by rw [hf' o hf.lt ho])
    obtain ⟨hE, hB⟩ := hb'
    rw [ht] at hB
    have hu0 : q.1 ≠ 0 := hu
    refine vx_widen (k := 1) (n := 6) (Nat.le_of_ble_eq_true rfl) (Nat.le_of_ble_eq_true rfl) ?_
    rcases hq with h | h
    · exact absurd h hu0
    · rw [h] at hE
      cases hE
      refine vx_catch hown [] _ _ htab (fun z hz => nomatch hz) (by decide) (by decide) (htg (.classLink RL 19 "java/lang/IndexOutOfBoundsException") (gw_t (tin5 (List.mem_of_getElem? (i := 87) rfl)) rfl)) (va_Nw.use rfl (hV.1 _ (List.mem_filter.mpr ⟨(tin5 (List.mem_of_getElem? (i := 102) rfl)), rfl⟩))) hce hcv hcl ?_
      refine lv_astore_n (lv' := [(3, .ref q9), (0, .ref (ad 0 0)), (1, .int p1), (2, .ref o)]) hx hb dL_visitsTo_12 rfl hl (by decide) rfl (fun ls hl => ?_)
      refine lv_iconst (v := 1) hx hb dL_visitsTo_13 (by decide) ?_
      refine vx_ret ?_
      exact W.iret (v := 1) hx hb hr (fun t ht hW => ⟨⟨1, (), rfl, Or.inr ⟨0, by rw [h]; rfl, hu0, rfl⟩, by rw [ht]; exact hB, f, by rw [ht]; exact ho1, fun e => absurd e hu0⟩, hS.F ht⟩) hS.2.2 dL_visitsTo_14
  · obtain ⟨hq0, rfl⟩ := hw
    rw [ht] at hB
    have ho1 := hf.kept (hk1 o hf.lt ho)
    refine lv_i2l hx hb dL_visitsTo_7 rfl ?_
    refine W.last hx hb ho1 ((hK.2 5 _ rfl).1 1 (fun j => .long (f j))) (fun q => by cases q) (by show ¬ ((0 : Int32) < 0 ∨ (arrV _ _ _).slots.size ≤ _); rw [arrV_size]; exact (by unfold vp_in; decide : vp_in 0 1)) rfl rfl dL_visitsTo_8 fun H2 e2 z oq => ?_
    have hno : ∀ g c, dX g c → ad g c ≠ o := fun g c hd e => ho ⟨g, c, hd, e.symm⟩
    have hP2 : PX SX Γ ad q.2.2 H2 := fun g c hd => (hB g c hd).kept (oq _ (hno g c hd))
    have ho2 : va_at Γ.1 vwCl (oC Γ o (vp_updL f 0 q.2.1.toInt64)) H2 := out_put e2
    have hS2 := hS.put (k := (0 : Int32).toNatClampNeg) z oq (Or.inr rfl : (fun z => AXs ad z ∨ z = o) o)
    refine W.eq (g2 := F0 m 9 ls []) rfl ?_
    refine lv_goto (tgt := 15) hx hb dL_visitsTo_9 (by decide) ?_
    refine lv_iconst (v := 0) hx hb dL_visitsTo_15 (by decide) ?_
    refine W.widen (k := 1) (n := 6) (Nat.le_of_ble_eq_true rfl) (Nat.le_of_ble_eq_true rfl) ?_
    refine vx_ret ?_
    exact W.iret (v := 0) hx hb hr (fun t ht hW => ⟨⟨0, (), rfl, Or.inl ⟨hq0, rfl⟩, by rw [ht]; exact hP2, _, by rw [ht]; exact ho2, fun _ => by unfold vp_updL; exact if_pos rfl⟩, hS2.F ht⟩) hS2.2.2 dL_visitsTo_16
theorem mwL_88 : MWv RL 88 yX11_scentsOf cX11_scentsOf 2 (some .int) 1 := ⟨gw_t (tin6 (List.mem_of_getElem? (i := 122) rfl)) rfl, gw_t (tin6 (List.mem_of_getElem? (i := 123) rfl)) rfl, gw_t (tin6 (List.mem_of_getElem? (i := 124) rfl)) rfl, gw_t (tin1 (List.mem_of_getElem? (i := 1) rfl)) rfl, gw_t (tin6 (List.mem_of_getElem? (i := 125) rfl)) rfl, by decide, by decide, by decide +kernel⟩
set_option maxHeartbeats 4000000 in
set_option maxRecDepth 100000 in
theorem wL_scentsOf (l : Launch) (hst : l.stackTraces = false) (Γ : Wc) (ad : Nat → Nat → Nat) (o : Nat) (p1 : Int32) (σ : Sig) (q : Xe) (hF : f11_scentsOf p1 σ = some q) (hq : q.1 = 0 ∨ q.1 = 2) : MWr l Γ ad o yL_scentsOf cL_scentsOf 4 [(0, 9, 12, 19)] 8 132 1 [.ref (ad 0 0), .int p1, .ref o] σ q [2] := by
  refine vx_ofWH (by decide) rfl ?_
  intro p e s m args below meth c s₁ B hml hv
  obtain ⟨rfl, ⟨hP, hK, hA, hZ, hV⟩, ⟨f, hf⟩, ho, hNC⟩ := hv
  have hx := B.exec
  have hb := B.bytes
  have hr := B.returns
  have hnl := B.notSynchronized
  have hts := atoms_spec (ws := .codeWith yL_scentsOf cL_scentsOf 4 (some .int) [(0, 9, 12, 19)] :: gw) B.pre
  have htg : ∀ w ∈ gw, w.before _ s = true := fun w h => hts w (List.mem_cons_of_mem _ h)
  have hown : s.vm.findClass RL = some m.cls := findClass_of_methodNamed B.named
  have htab := vx_table (x := yL_scentsOf) B (hts _ List.mem_cons_self)
  have cx : CX SX Γ ad (AXs ad) RL cL_scentsOf 4 p s m _ c := ⟨hx, hb, hml, hown, htg, hK, hA, hZ, hV⟩
  have hPS : PS SX Γ ad (AXs ad) s σ s.heap [] := ⟨hP, va_S.rf⟩
  have hS : va_S (fun z => AXs ad z ∨ z = o) s.heap s.heap [] := va_S.rf
  have hl := lv_entry ([.ref (ad 0 0), .int p1, .ref o]) (n := 4) (Nat.le_of_ble_eq_true rfl)
  rw [lg_entry_eq]
  generalize (lg_sl ([.ref (ad 0 0), .int p1, .ref o]) ++ List.replicate (4 - (lg_sl ([.ref (ad 0 0), .int p1, .ref o])).length) Slot.unset).toArray = ls at hl ⊢
  have hl : lv_has ls 4 [(0, .ref (ad 0 0)), (1, .int p1), (2, .ref o)] := hl
  refine lv_aload_n hx hb dL_scentsOf_0 rfl (lv_at hl 2 rfl) ?_
  refine lv_iconst (v := 0) hx hb dL_scentsOf_1 (by decide) ?_
  refine lv_aload_n hx hb dL_scentsOf_2 rfl (lv_at hl 0 rfl) ?_
  refine lv_iload_n hx hb dL_scentsOf_3 rfl (lv_at hl 1 rfl) ?_
  refine vx_calli (vx_runV (As := [.int p1]) (rest := [.int 0, .ref o]) (fixOf cx) (w11_scentsOf l hst Γ ad (AXs ad) p1 σ q hF) (mwL_88.callB cx ⟨Nat.le_of_ble_eq_true rfl, Nat.le_of_ble_eq_true rfl⟩) ⟨Pre.blind, recvOf cx hPS (dXr (by decide)) rfl rfl, fun U hU hW => ⟨rfl, cx.pre hPS hU hW⟩⟩ rfl rfl hl.1 rfl (lv_room (Nat.le_of_ble_eq_true rfl)) dL_scentsOf_4 ⟨Nat.le_of_ble_eq_true rfl, Nat.le_of_ble_eq_true rfl⟩) hS (fun q _ h => Or.inl h) (fun q h => Or.inl h) (fun q _ h => Or.inl h) (fun E ce q9 u t H1 locs1 ht hvm hu hb' hz hf' hS hce hcv hcl => ?_) (fun r u t H1 locs1 ht hvm hw hB hz1 hk1 hS => ?_)
  · have ho1 := hf.kept (by rw [hf' o hf.lt ho])
    obtain ⟨hE, hB⟩ := hb'
    rw [ht] at hB
    have hu0 : q.1 ≠ 0 := hu
    refine vx_widen (k := 1) (n := 6) (Nat.le_of_ble_eq_true rfl) (Nat.le_of_ble_eq_true rfl) ?_
    rcases hq with h | h
    · exact absurd h hu0
    · rw [h] at hE
      cases hE
      refine vx_catch hown [] _ _ htab (fun z hz => nomatch hz) (by decide) (by decide) (htg (.classLink RL 19 "java/lang/IndexOutOfBoundsException") (gw_t (tin5 (List.mem_of_getElem? (i := 87) rfl)) rfl)) (va_Nw.use rfl (hV.1 _ (List.mem_filter.mpr ⟨(tin5 (List.mem_of_getElem? (i := 102) rfl)), rfl⟩))) hce hcv hcl ?_
      refine lv_astore_n (lv' := [(3, .ref q9), (0, .ref (ad 0 0)), (1, .int p1), (2, .ref o)]) hx hb dL_scentsOf_12 rfl hl (by decide) rfl (fun ls hl => ?_)
      refine lv_iconst (v := 1) hx hb dL_scentsOf_13 (by decide) ?_
      refine vx_ret ?_
      exact W.iret (v := 1) hx hb hr (fun t ht hW => ⟨⟨1, (), rfl, Or.inr ⟨0, by rw [h]; rfl, hu0, rfl⟩, by rw [ht]; exact hB, f, by rw [ht]; exact ho1, fun e => absurd e hu0⟩, hS.F ht⟩) hS.2.2 dL_scentsOf_14
  · obtain ⟨hq0, rfl⟩ := hw
    rw [ht] at hB
    have ho1 := hf.kept (hk1 o hf.lt ho)
    refine lv_i2l hx hb dL_scentsOf_7 rfl ?_
    refine W.last hx hb ho1 ((hK.2 5 _ rfl).1 1 (fun j => .long (f j))) (fun q => by cases q) (by show ¬ ((0 : Int32) < 0 ∨ (arrV _ _ _).slots.size ≤ _); rw [arrV_size]; exact (by unfold vp_in; decide : vp_in 0 1)) rfl rfl dL_scentsOf_8 fun H2 e2 z oq => ?_
    have hno : ∀ g c, dX g c → ad g c ≠ o := fun g c hd e => ho ⟨g, c, hd, e.symm⟩
    have hP2 : PX SX Γ ad q.2.2 H2 := fun g c hd => (hB g c hd).kept (oq _ (hno g c hd))
    have ho2 : va_at Γ.1 vwCl (oC Γ o (vp_updL f 0 q.2.1.toInt64)) H2 := out_put e2
    have hS2 := hS.put (k := (0 : Int32).toNatClampNeg) z oq (Or.inr rfl : (fun z => AXs ad z ∨ z = o) o)
    refine W.eq (g2 := F0 m 9 ls []) rfl ?_
    refine lv_goto (tgt := 15) hx hb dL_scentsOf_9 (by decide) ?_
    refine lv_iconst (v := 0) hx hb dL_scentsOf_15 (by decide) ?_
    refine W.widen (k := 1) (n := 6) (Nat.le_of_ble_eq_true rfl) (Nat.le_of_ble_eq_true rfl) ?_
    refine vx_ret ?_
    exact W.iret (v := 0) hx hb hr (fun t ht hW => ⟨⟨0, (), rfl, Or.inl ⟨hq0, rfl⟩, by rw [ht]; exact hP2, _, by rw [ht]; exact ho2, fun _ => by unfold vp_updL; exact if_pos rfl⟩, hS2.F ht⟩) hS2.2.2 dL_scentsOf_16
theorem mwL_91 : MWv RL 91 yX11_firstDay cX11_firstDay 2 (some .int) 1 := ⟨gw_t (tin6 (List.mem_of_getElem? (i := 129) rfl)) rfl, gw_t (tin6 (List.mem_of_getElem? (i := 130) rfl)) rfl, gw_t (tin6 (List.mem_of_getElem? (i := 131) rfl)) rfl, gw_t (tin1 (List.mem_of_getElem? (i := 1) rfl)) rfl, gw_t (tin6 (List.mem_of_getElem? (i := 132) rfl)) rfl, by decide, by decide, by decide +kernel⟩
set_option maxHeartbeats 4000000 in
set_option maxRecDepth 100000 in
theorem wL_firstDay (l : Launch) (hst : l.stackTraces = false) (Γ : Wc) (ad : Nat → Nat → Nat) (o : Nat) (p1 : Int32) (σ : Sig) (q : Xe) (hF : f11_firstDay p1 σ = some q) (hq : q.1 = 0 ∨ q.1 = 2) : MWr l Γ ad o yL_firstDay cL_firstDay 4 [(0, 9, 12, 19)] 8 132 1 [.ref (ad 0 0), .int p1, .ref o] σ q [2] := by
  refine vx_ofWH (by decide) rfl ?_
  intro p e s m args below meth c s₁ B hml hv
  obtain ⟨rfl, ⟨hP, hK, hA, hZ, hV⟩, ⟨f, hf⟩, ho, hNC⟩ := hv
  have hx := B.exec
  have hb := B.bytes
  have hr := B.returns
  have hnl := B.notSynchronized
  have hts := atoms_spec (ws := .codeWith yL_firstDay cL_firstDay 4 (some .int) [(0, 9, 12, 19)] :: gw) B.pre
  have htg : ∀ w ∈ gw, w.before _ s = true := fun w h => hts w (List.mem_cons_of_mem _ h)
  have hown : s.vm.findClass RL = some m.cls := findClass_of_methodNamed B.named
  have htab := vx_table (x := yL_firstDay) B (hts _ List.mem_cons_self)
  have cx : CX SX Γ ad (AXs ad) RL cL_firstDay 4 p s m _ c := ⟨hx, hb, hml, hown, htg, hK, hA, hZ, hV⟩
  have hPS : PS SX Γ ad (AXs ad) s σ s.heap [] := ⟨hP, va_S.rf⟩
  have hS : va_S (fun z => AXs ad z ∨ z = o) s.heap s.heap [] := va_S.rf
  have hl := lv_entry ([.ref (ad 0 0), .int p1, .ref o]) (n := 4) (Nat.le_of_ble_eq_true rfl)
  rw [lg_entry_eq]
  generalize (lg_sl ([.ref (ad 0 0), .int p1, .ref o]) ++ List.replicate (4 - (lg_sl ([.ref (ad 0 0), .int p1, .ref o])).length) Slot.unset).toArray = ls at hl ⊢
  have hl : lv_has ls 4 [(0, .ref (ad 0 0)), (1, .int p1), (2, .ref o)] := hl
  refine lv_aload_n hx hb dL_firstDay_0 rfl (lv_at hl 2 rfl) ?_
  refine lv_iconst (v := 0) hx hb dL_firstDay_1 (by decide) ?_
  refine lv_aload_n hx hb dL_firstDay_2 rfl (lv_at hl 0 rfl) ?_
  refine lv_iload_n hx hb dL_firstDay_3 rfl (lv_at hl 1 rfl) ?_
  refine vx_calli (vx_runV (As := [.int p1]) (rest := [.int 0, .ref o]) (fixOf cx) (w11_firstDay l hst Γ ad (AXs ad) p1 σ q hF) (mwL_91.callB cx ⟨Nat.le_of_ble_eq_true rfl, Nat.le_of_ble_eq_true rfl⟩) ⟨Pre.blind, recvOf cx hPS (dXr (by decide)) rfl rfl, fun U hU hW => ⟨rfl, cx.pre hPS hU hW⟩⟩ rfl rfl hl.1 rfl (lv_room (Nat.le_of_ble_eq_true rfl)) dL_firstDay_4 ⟨Nat.le_of_ble_eq_true rfl, Nat.le_of_ble_eq_true rfl⟩) hS (fun q _ h => Or.inl h) (fun q h => Or.inl h) (fun q _ h => Or.inl h) (fun E ce q9 u t H1 locs1 ht hvm hu hb' hz hf' hS hce hcv hcl => ?_) (fun r u t H1 locs1 ht hvm hw hB hz1 hk1 hS => ?_)
  · have ho1 := hf.kept (by rw [hf' o hf.lt ho])
    obtain ⟨hE, hB⟩ := hb'
    rw [ht] at hB
    have hu0 : q.1 ≠ 0 := hu
    refine vx_widen (k := 1) (n := 6) (Nat.le_of_ble_eq_true rfl) (Nat.le_of_ble_eq_true rfl) ?_
    rcases hq with h | h
    · exact absurd h hu0
    · rw [h] at hE
      cases hE
      refine vx_catch hown [] _ _ htab (fun z hz => nomatch hz) (by decide) (by decide) (htg (.classLink RL 19 "java/lang/IndexOutOfBoundsException") (gw_t (tin5 (List.mem_of_getElem? (i := 87) rfl)) rfl)) (va_Nw.use rfl (hV.1 _ (List.mem_filter.mpr ⟨(tin5 (List.mem_of_getElem? (i := 102) rfl)), rfl⟩))) hce hcv hcl ?_
      refine lv_astore_n (lv' := [(3, .ref q9), (0, .ref (ad 0 0)), (1, .int p1), (2, .ref o)]) hx hb dL_firstDay_12 rfl hl (by decide) rfl (fun ls hl => ?_)
      refine lv_iconst (v := 1) hx hb dL_firstDay_13 (by decide) ?_
      refine vx_ret ?_
      exact W.iret (v := 1) hx hb hr (fun t ht hW => ⟨⟨1, (), rfl, Or.inr ⟨0, by rw [h]; rfl, hu0, rfl⟩, by rw [ht]; exact hB, f, by rw [ht]; exact ho1, fun e => absurd e hu0⟩, hS.F ht⟩) hS.2.2 dL_firstDay_14
  · obtain ⟨hq0, rfl⟩ := hw
    rw [ht] at hB
    have ho1 := hf.kept (hk1 o hf.lt ho)
    refine lv_i2l hx hb dL_firstDay_7 rfl ?_
    refine W.last hx hb ho1 ((hK.2 5 _ rfl).1 1 (fun j => .long (f j))) (fun q => by cases q) (by show ¬ ((0 : Int32) < 0 ∨ (arrV _ _ _).slots.size ≤ _); rw [arrV_size]; exact (by unfold vp_in; decide : vp_in 0 1)) rfl rfl dL_firstDay_8 fun H2 e2 z oq => ?_
    have hno : ∀ g c, dX g c → ad g c ≠ o := fun g c hd e => ho ⟨g, c, hd, e.symm⟩
    have hP2 : PX SX Γ ad q.2.2 H2 := fun g c hd => (hB g c hd).kept (oq _ (hno g c hd))
    have ho2 : va_at Γ.1 vwCl (oC Γ o (vp_updL f 0 q.2.1.toInt64)) H2 := out_put e2
    have hS2 := hS.put (k := (0 : Int32).toNatClampNeg) z oq (Or.inr rfl : (fun z => AXs ad z ∨ z = o) o)
    refine W.eq (g2 := F0 m 9 ls []) rfl ?_
    refine lv_goto (tgt := 15) hx hb dL_firstDay_9 (by decide) ?_
    refine lv_iconst (v := 0) hx hb dL_firstDay_15 (by decide) ?_
    refine W.widen (k := 1) (n := 6) (Nat.le_of_ble_eq_true rfl) (Nat.le_of_ble_eq_true rfl) ?_
    refine vx_ret ?_
    exact W.iret (v := 0) hx hb hr (fun t ht hW => ⟨⟨0, (), rfl, Or.inl ⟨hq0, rfl⟩, by rw [ht]; exact hP2, _, by rw [ht]; exact ho2, fun _ => by unfold vp_updL; exact if_pos rfl⟩, hS2.F ht⟩) hS2.2.2 dL_firstDay_16
theorem mwL_94 : MWv RL 94 yX11_lastDay cX11_lastDay 2 (some .int) 1 := ⟨gw_t (tin6 (List.mem_of_getElem? (i := 136) rfl)) rfl, gw_t (tin6 (List.mem_of_getElem? (i := 137) rfl)) rfl, gw_t (tin6 (List.mem_of_getElem? (i := 138) rfl)) rfl, gw_t (tin1 (List.mem_of_getElem? (i := 1) rfl)) rfl, gw_t (tin6 (List.mem_of_getElem? (i := 139) rfl)) rfl, by decide, by decide, by decide +kernel⟩
set_option maxHeartbeats 4000000 in
set_option maxRecDepth 100000 in
theorem wL_lastDay (l : Launch) (hst : l.stackTraces = false) (Γ : Wc) (ad : Nat → Nat → Nat) (o : Nat) (p1 : Int32) (σ : Sig) (q : Xe) (hF : f11_lastDay p1 σ = some q) (hq : q.1 = 0 ∨ q.1 = 2) : MWr l Γ ad o yL_lastDay cL_lastDay 4 [(0, 9, 12, 19)] 8 132 1 [.ref (ad 0 0), .int p1, .ref o] σ q [2] := by
  refine vx_ofWH (by decide) rfl ?_
  intro p e s m args below meth c s₁ B hml hv
  obtain ⟨rfl, ⟨hP, hK, hA, hZ, hV⟩, ⟨f, hf⟩, ho, hNC⟩ := hv
  have hx := B.exec
  have hb := B.bytes
  have hr := B.returns
  have hnl := B.notSynchronized
  have hts := atoms_spec (ws := .codeWith yL_lastDay cL_lastDay 4 (some .int) [(0, 9, 12, 19)] :: gw) B.pre
  have htg : ∀ w ∈ gw, w.before _ s = true := fun w h => hts w (List.mem_cons_of_mem _ h)
  have hown : s.vm.findClass RL = some m.cls := findClass_of_methodNamed B.named
  have htab := vx_table (x := yL_lastDay) B (hts _ List.mem_cons_self)
  have cx : CX SX Γ ad (AXs ad) RL cL_lastDay 4 p s m _ c := ⟨hx, hb, hml, hown, htg, hK, hA, hZ, hV⟩
  have hPS : PS SX Γ ad (AXs ad) s σ s.heap [] := ⟨hP, va_S.rf⟩
  have hS : va_S (fun z => AXs ad z ∨ z = o) s.heap s.heap [] := va_S.rf
  have hl := lv_entry ([.ref (ad 0 0), .int p1, .ref o]) (n := 4) (Nat.le_of_ble_eq_true rfl)
  rw [lg_entry_eq]
  generalize (lg_sl ([.ref (ad 0 0), .int p1, .ref o]) ++ List.replicate (4 - (lg_sl ([.ref (ad 0 0), .int p1, .ref o])).length) Slot.unset).toArray = ls at hl ⊢
  have hl : lv_has ls 4 [(0, .ref (ad 0 0)), (1, .int p1), (2, .ref o)] := hl
  refine lv_aload_n hx hb dL_lastDay_0 rfl (lv_at hl 2 rfl) ?_
  refine lv_iconst (v := 0) hx hb dL_lastDay_1 (by decide) ?_
  refine lv_aload_n hx hb dL_lastDay_2 rfl (lv_at hl 0 rfl) ?_
  refine lv_iload_n hx hb dL_lastDay_3 rfl (lv_at hl 1 rfl) ?_
  refine vx_calli (vx_runV (As := [.int p1]) (rest := [.int 0, .ref o]) (fixOf cx) (w11_lastDay l hst Γ ad (AXs ad) p1 σ q hF) (mwL_94.callB cx ⟨Nat.le_of_ble_eq_true rfl, Nat.le_of_ble_eq_true rfl⟩) ⟨Pre.blind, recvOf cx hPS (dXr (by decide)) rfl rfl, fun U hU hW => ⟨rfl, cx.pre hPS hU hW⟩⟩ rfl rfl hl.1 rfl (lv_room (Nat.le_of_ble_eq_true rfl)) dL_lastDay_4 ⟨Nat.le_of_ble_eq_true rfl, Nat.le_of_ble_eq_true rfl⟩) hS (fun q _ h => Or.inl h) (fun q h => Or.inl h) (fun q _ h => Or.inl h) (fun E ce q9 u t H1 locs1 ht hvm hu hb' hz hf' hS hce hcv hcl => ?_) (fun r u t H1 locs1 ht hvm hw hB hz1 hk1 hS => ?_)
  · have ho1 := hf.kept (by rw [hf' o hf.lt ho])
    obtain ⟨hE, hB⟩ := hb'
    rw [ht] at hB
    have hu0 : q.1 ≠ 0 := hu
    refine vx_widen (k := 1) (n := 6) (Nat.le_of_ble_eq_true rfl) (Nat.le_of_ble_eq_true rfl) ?_
    rcases hq with h | h
    · exact absurd h hu0
    · rw [h] at hE
      cases hE
      refine vx_catch hown [] _ _ htab (fun z hz => nomatch hz) (by decide) (by decide) (htg (.classLink RL 19 "java/lang/IndexOutOfBoundsException") (gw_t (tin5 (List.mem_of_getElem? (i := 87) rfl)) rfl)) (va_Nw.use rfl (hV.1 _ (List.mem_filter.mpr ⟨(tin5 (List.mem_of_getElem? (i := 102) rfl)), rfl⟩))) hce hcv hcl ?_
      refine lv_astore_n (lv' := [(3, .ref q9), (0, .ref (ad 0 0)), (1, .int p1), (2, .ref o)]) hx hb dL_lastDay_12 rfl hl (by decide) rfl (fun ls hl => ?_)
      refine lv_iconst (v := 1) hx hb dL_lastDay_13 (by decide) ?_
      refine vx_ret ?_
      exact W.iret (v := 1) hx hb hr (fun t ht hW => ⟨⟨1, (), rfl, Or.inr ⟨0, by rw [h]; rfl, hu0, rfl⟩, by rw [ht]; exact hB, f, by rw [ht]; exact ho1, fun e => absurd e hu0⟩, hS.F ht⟩) hS.2.2 dL_lastDay_14
  · obtain ⟨hq0, rfl⟩ := hw
    rw [ht] at hB
    have ho1 := hf.kept (hk1 o hf.lt ho)
    refine lv_i2l hx hb dL_lastDay_7 rfl ?_
    refine W.last hx hb ho1 ((hK.2 5 _ rfl).1 1 (fun j => .long (f j))) (fun q => by cases q) (by show ¬ ((0 : Int32) < 0 ∨ (arrV _ _ _).slots.size ≤ _); rw [arrV_size]; exact (by unfold vp_in; decide : vp_in 0 1)) rfl rfl dL_lastDay_8 fun H2 e2 z oq => ?_
    have hno : ∀ g c, dX g c → ad g c ≠ o := fun g c hd e => ho ⟨g, c, hd, e.symm⟩
    have hP2 : PX SX Γ ad q.2.2 H2 := fun g c hd => (hB g c hd).kept (oq _ (hno g c hd))
    have ho2 : va_at Γ.1 vwCl (oC Γ o (vp_updL f 0 q.2.1.toInt64)) H2 := out_put e2
    have hS2 := hS.put (k := (0 : Int32).toNatClampNeg) z oq (Or.inr rfl : (fun z => AXs ad z ∨ z = o) o)
    refine W.eq (g2 := F0 m 9 ls []) rfl ?_
    refine lv_goto (tgt := 15) hx hb dL_lastDay_9 (by decide) ?_
    refine lv_iconst (v := 0) hx hb dL_lastDay_15 (by decide) ?_
    refine W.widen (k := 1) (n := 6) (Nat.le_of_ble_eq_true rfl) (Nat.le_of_ble_eq_true rfl) ?_
    refine vx_ret ?_
    exact W.iret (v := 0) hx hb hr (fun t ht hW => ⟨⟨0, (), rfl, Or.inl ⟨hq0, rfl⟩, by rw [ht]; exact hP2, _, by rw [ht]; exact ho2, fun _ => by unfold vp_updL; exact if_pos rfl⟩, hS2.F ht⟩) hS2.2.2 dL_lastDay_16
theorem mwL_97 : MWv RL 97 yX11_priceOf cX11_priceOf 2 (some .int) 1 := ⟨gw_t (tin6 (List.mem_of_getElem? (i := 144) rfl)) rfl, gw_t (tin6 (List.mem_of_getElem? (i := 145) rfl)) rfl, gw_t (tin6 (List.mem_of_getElem? (i := 146) rfl)) rfl, gw_t (tin1 (List.mem_of_getElem? (i := 1) rfl)) rfl, gw_t (tin6 (List.mem_of_getElem? (i := 147) rfl)) rfl, by decide, by decide, by decide +kernel⟩
set_option maxHeartbeats 4000000 in
set_option maxRecDepth 100000 in
theorem wL_priceOf (l : Launch) (hst : l.stackTraces = false) (Γ : Wc) (ad : Nat → Nat → Nat) (o : Nat) (p1 : Int32) (σ : Sig) (q : Xe) (hF : f11_priceOf p1 σ = some q) (hq : q.1 = 0 ∨ q.1 = 2) : MWr l Γ ad o yL_priceOf cL_priceOf 4 [(0, 9, 12, 19)] 8 132 1 [.ref (ad 0 0), .int p1, .ref o] σ q [2] := by
  refine vx_ofWH (by decide) rfl ?_
  intro p e s m args below meth c s₁ B hml hv
  obtain ⟨rfl, ⟨hP, hK, hA, hZ, hV⟩, ⟨f, hf⟩, ho, hNC⟩ := hv
  have hx := B.exec
  have hb := B.bytes
  have hr := B.returns
  have hnl := B.notSynchronized
  have hts := atoms_spec (ws := .codeWith yL_priceOf cL_priceOf 4 (some .int) [(0, 9, 12, 19)] :: gw) B.pre
  have htg : ∀ w ∈ gw, w.before _ s = true := fun w h => hts w (List.mem_cons_of_mem _ h)
  have hown : s.vm.findClass RL = some m.cls := findClass_of_methodNamed B.named
  have htab := vx_table (x := yL_priceOf) B (hts _ List.mem_cons_self)
  have cx : CX SX Γ ad (AXs ad) RL cL_priceOf 4 p s m _ c := ⟨hx, hb, hml, hown, htg, hK, hA, hZ, hV⟩
  have hPS : PS SX Γ ad (AXs ad) s σ s.heap [] := ⟨hP, va_S.rf⟩
  have hS : va_S (fun z => AXs ad z ∨ z = o) s.heap s.heap [] := va_S.rf
  have hl := lv_entry ([.ref (ad 0 0), .int p1, .ref o]) (n := 4) (Nat.le_of_ble_eq_true rfl)
  rw [lg_entry_eq]
  generalize (lg_sl ([.ref (ad 0 0), .int p1, .ref o]) ++ List.replicate (4 - (lg_sl ([.ref (ad 0 0), .int p1, .ref o])).length) Slot.unset).toArray = ls at hl ⊢
  have hl : lv_has ls 4 [(0, .ref (ad 0 0)), (1, .int p1), (2, .ref o)] := hl
  refine lv_aload_n hx hb dL_priceOf_0 rfl (lv_at hl 2 rfl) ?_
  refine lv_iconst (v := 0) hx hb dL_priceOf_1 (by decide) ?_
  refine lv_aload_n hx hb dL_priceOf_2 rfl (lv_at hl 0 rfl) ?_
  refine lv_iload_n hx hb dL_priceOf_3 rfl (lv_at hl 1 rfl) ?_
  refine vx_calli (vx_runV (As := [.int p1]) (rest := [.int 0, .ref o]) (fixOf cx) (w11_priceOf l hst Γ ad (AXs ad) p1 σ q hF) (mwL_97.callB cx ⟨Nat.le_of_ble_eq_true rfl, Nat.le_of_ble_eq_true rfl⟩) ⟨Pre.blind, recvOf cx hPS (dXr (by decide)) rfl rfl, fun U hU hW => ⟨rfl, cx.pre hPS hU hW⟩⟩ rfl rfl hl.1 rfl (lv_room (Nat.le_of_ble_eq_true rfl)) dL_priceOf_4 ⟨Nat.le_of_ble_eq_true rfl, Nat.le_of_ble_eq_true rfl⟩) hS (fun q _ h => Or.inl h) (fun q h => Or.inl h) (fun q _ h => Or.inl h) (fun E ce q9 u t H1 locs1 ht hvm hu hb' hz hf' hS hce hcv hcl => ?_) (fun r u t H1 locs1 ht hvm hw hB hz1 hk1 hS => ?_)
  · have ho1 := hf.kept (by rw [hf' o hf.lt ho])
    obtain ⟨hE, hB⟩ := hb'
    rw [ht] at hB
    have hu0 : q.1 ≠ 0 := hu
    refine vx_widen (k := 1) (n := 6) (Nat.le_of_ble_eq_true rfl) (Nat.le_of_ble_eq_true rfl) ?_
    rcases hq with h | h
    · exact absurd h hu0
    · rw [h] at hE
      cases hE
      refine vx_catch hown [] _ _ htab (fun z hz => nomatch hz) (by decide) (by decide) (htg (.classLink RL 19 "java/lang/IndexOutOfBoundsException") (gw_t (tin5 (List.mem_of_getElem? (i := 87) rfl)) rfl)) (va_Nw.use rfl (hV.1 _ (List.mem_filter.mpr ⟨(tin5 (List.mem_of_getElem? (i := 102) rfl)), rfl⟩))) hce hcv hcl ?_
      refine lv_astore_n (lv' := [(3, .ref q9), (0, .ref (ad 0 0)), (1, .int p1), (2, .ref o)]) hx hb dL_priceOf_12 rfl hl (by decide) rfl (fun ls hl => ?_)
      refine lv_iconst (v := 1) hx hb dL_priceOf_13 (by decide) ?_
      refine vx_ret ?_
      exact W.iret (v := 1) hx hb hr (fun t ht hW => ⟨⟨1, (), rfl, Or.inr ⟨0, by rw [h]; rfl, hu0, rfl⟩, by rw [ht]; exact hB, f, by rw [ht]; exact ho1, fun e => absurd e hu0⟩, hS.F ht⟩) hS.2.2 dL_priceOf_14
  · obtain ⟨hq0, rfl⟩ := hw
    rw [ht] at hB
    have ho1 := hf.kept (hk1 o hf.lt ho)
    refine lv_i2l hx hb dL_priceOf_7 rfl ?_
    refine W.last hx hb ho1 ((hK.2 5 _ rfl).1 1 (fun j => .long (f j))) (fun q => by cases q) (by show ¬ ((0 : Int32) < 0 ∨ (arrV _ _ _).slots.size ≤ _); rw [arrV_size]; exact (by unfold vp_in; decide : vp_in 0 1)) rfl rfl dL_priceOf_8 fun H2 e2 z oq => ?_
    have hno : ∀ g c, dX g c → ad g c ≠ o := fun g c hd e => ho ⟨g, c, hd, e.symm⟩
    have hP2 : PX SX Γ ad q.2.2 H2 := fun g c hd => (hB g c hd).kept (oq _ (hno g c hd))
    have ho2 : va_at Γ.1 vwCl (oC Γ o (vp_updL f 0 q.2.1.toInt64)) H2 := out_put e2
    have hS2 := hS.put (k := (0 : Int32).toNatClampNeg) z oq (Or.inr rfl : (fun z => AXs ad z ∨ z = o) o)
    refine W.eq (g2 := F0 m 9 ls []) rfl ?_
    refine lv_goto (tgt := 15) hx hb dL_priceOf_9 (by decide) ?_
    refine lv_iconst (v := 0) hx hb dL_priceOf_15 (by decide) ?_
    refine W.widen (k := 1) (n := 6) (Nat.le_of_ble_eq_true rfl) (Nat.le_of_ble_eq_true rfl) ?_
    refine vx_ret ?_
    exact W.iret (v := 0) hx hb hr (fun t ht hW => ⟨⟨0, (), rfl, Or.inl ⟨hq0, rfl⟩, by rw [ht]; exact hP2, _, by rw [ht]; exact ho2, fun _ => by unfold vp_updL; exact if_pos rfl⟩, hS2.F ht⟩) hS2.2.2 dL_priceOf_16
theorem mwL_100 : MWv RL 100 yX11_cardOf cX11_cardOf 2 (some .int) 1 := ⟨gw_t (tin6 (List.mem_of_getElem? (i := 151) rfl)) rfl, gw_t (tin6 (List.mem_of_getElem? (i := 152) rfl)) rfl, gw_t (tin6 (List.mem_of_getElem? (i := 153) rfl)) rfl, gw_t (tin1 (List.mem_of_getElem? (i := 1) rfl)) rfl, gw_t (tin6 (List.mem_of_getElem? (i := 154) rfl)) rfl, by decide, by decide, by decide +kernel⟩
set_option maxHeartbeats 4000000 in
set_option maxRecDepth 100000 in
theorem wL_cardOf (l : Launch) (hst : l.stackTraces = false) (Γ : Wc) (ad : Nat → Nat → Nat) (o : Nat) (p1 : Int32) (σ : Sig) (q : Xe) (hF : f11_cardOf p1 σ = some q) (hq : q.1 = 0 ∨ q.1 = 2) : MWr l Γ ad o yL_cardOf cL_cardOf 4 [(0, 9, 12, 19)] 8 132 1 [.ref (ad 0 0), .int p1, .ref o] σ q [2] := by
  refine vx_ofWH (by decide) rfl ?_
  intro p e s m args below meth c s₁ B hml hv
  obtain ⟨rfl, ⟨hP, hK, hA, hZ, hV⟩, ⟨f, hf⟩, ho, hNC⟩ := hv
  have hx := B.exec
  have hb := B.bytes
  have hr := B.returns
  have hnl := B.notSynchronized
  have hts := atoms_spec (ws := .codeWith yL_cardOf cL_cardOf 4 (some .int) [(0, 9, 12, 19)] :: gw) B.pre
  have htg : ∀ w ∈ gw, w.before _ s = true := fun w h => hts w (List.mem_cons_of_mem _ h)
  have hown : s.vm.findClass RL = some m.cls := findClass_of_methodNamed B.named
  have htab := vx_table (x := yL_cardOf) B (hts _ List.mem_cons_self)
  have cx : CX SX Γ ad (AXs ad) RL cL_cardOf 4 p s m _ c := ⟨hx, hb, hml, hown, htg, hK, hA, hZ, hV⟩
  have hPS : PS SX Γ ad (AXs ad) s σ s.heap [] := ⟨hP, va_S.rf⟩
  have hS : va_S (fun z => AXs ad z ∨ z = o) s.heap s.heap [] := va_S.rf
  have hl := lv_entry ([.ref (ad 0 0), .int p1, .ref o]) (n := 4) (Nat.le_of_ble_eq_true rfl)
  rw [lg_entry_eq]
  generalize (lg_sl ([.ref (ad 0 0), .int p1, .ref o]) ++ List.replicate (4 - (lg_sl ([.ref (ad 0 0), .int p1, .ref o])).length) Slot.unset).toArray = ls at hl ⊢
  have hl : lv_has ls 4 [(0, .ref (ad 0 0)), (1, .int p1), (2, .ref o)] := hl
  refine lv_aload_n hx hb dL_cardOf_0 rfl (lv_at hl 2 rfl) ?_
  refine lv_iconst (v := 0) hx hb dL_cardOf_1 (by decide) ?_
  refine lv_aload_n hx hb dL_cardOf_2 rfl (lv_at hl 0 rfl) ?_
  refine lv_iload_n hx hb dL_cardOf_3 rfl (lv_at hl 1 rfl) ?_
  refine vx_calli (vx_runV (As := [.int p1]) (rest := [.int 0, .ref o]) (fixOf cx) (w11_cardOf l hst Γ ad (AXs ad) p1 σ q hF) (mwL_100.callB cx ⟨Nat.le_of_ble_eq_true rfl, Nat.le_of_ble_eq_true rfl⟩) ⟨Pre.blind, recvOf cx hPS (dXr (by decide)) rfl rfl, fun U hU hW => ⟨rfl, cx.pre hPS hU hW⟩⟩ rfl rfl hl.1 rfl (lv_room (Nat.le_of_ble_eq_true rfl)) dL_cardOf_4 ⟨Nat.le_of_ble_eq_true rfl, Nat.le_of_ble_eq_true rfl⟩) hS (fun q _ h => Or.inl h) (fun q h => Or.inl h) (fun q _ h => Or.inl h) (fun E ce q9 u t H1 locs1 ht hvm hu hb' hz hf' hS hce hcv hcl => ?_) (fun r u t H1 locs1 ht hvm hw hB hz1 hk1 hS => ?_)
  · have ho1 := hf.kept (by rw [hf' o hf.lt ho])
    obtain ⟨hE, hB⟩ := hb'
    rw [ht] at hB
    have hu0 : q.1 ≠ 0 := hu
    refine vx_widen (k := 1) (n := 6) (Nat.le_of_ble_eq_true rfl) (Nat.le_of_ble_eq_true rfl) ?_
    rcases hq with h | h
    · exact absurd h hu0
    · rw [h] at hE
      cases hE
      refine vx_catch hown [] _ _ htab (fun z hz => nomatch hz) (by decide) (by decide) (htg (.classLink RL 19 "java/lang/IndexOutOfBoundsException") (gw_t (tin5 (List.mem_of_getElem? (i := 87) rfl)) rfl)) (va_Nw.use rfl (hV.1 _ (List.mem_filter.mpr ⟨(tin5 (List.mem_of_getElem? (i := 102) rfl)), rfl⟩))) hce hcv hcl ?_
      refine lv_astore_n (lv' := [(3, .ref q9), (0, .ref (ad 0 0)), (1, .int p1), (2, .ref o)]) hx hb dL_cardOf_12 rfl hl (by decide) rfl (fun ls hl => ?_)
      refine lv_iconst (v := 1) hx hb dL_cardOf_13 (by decide) ?_
      refine vx_ret ?_
      exact W.iret (v := 1) hx hb hr (fun t ht hW => ⟨⟨1, (), rfl, Or.inr ⟨0, by rw [h]; rfl, hu0, rfl⟩, by rw [ht]; exact hB, f, by rw [ht]; exact ho1, fun e => absurd e hu0⟩, hS.F ht⟩) hS.2.2 dL_cardOf_14
  · obtain ⟨hq0, rfl⟩ := hw
    rw [ht] at hB
    have ho1 := hf.kept (hk1 o hf.lt ho)
    refine lv_i2l hx hb dL_cardOf_7 rfl ?_
    refine W.last hx hb ho1 ((hK.2 5 _ rfl).1 1 (fun j => .long (f j))) (fun q => by cases q) (by show ¬ ((0 : Int32) < 0 ∨ (arrV _ _ _).slots.size ≤ _); rw [arrV_size]; exact (by unfold vp_in; decide : vp_in 0 1)) rfl rfl dL_cardOf_8 fun H2 e2 z oq => ?_
    have hno : ∀ g c, dX g c → ad g c ≠ o := fun g c hd e => ho ⟨g, c, hd, e.symm⟩
    have hP2 : PX SX Γ ad q.2.2 H2 := fun g c hd => (hB g c hd).kept (oq _ (hno g c hd))
    have ho2 : va_at Γ.1 vwCl (oC Γ o (vp_updL f 0 q.2.1.toInt64)) H2 := out_put e2
    have hS2 := hS.put (k := (0 : Int32).toNatClampNeg) z oq (Or.inr rfl : (fun z => AXs ad z ∨ z = o) o)
    refine W.eq (g2 := F0 m 9 ls []) rfl ?_
    refine lv_goto (tgt := 15) hx hb dL_cardOf_9 (by decide) ?_
    refine lv_iconst (v := 0) hx hb dL_cardOf_15 (by decide) ?_
    refine W.widen (k := 1) (n := 6) (Nat.le_of_ble_eq_true rfl) (Nat.le_of_ble_eq_true rfl) ?_
    refine vx_ret ?_
    exact W.iret (v := 0) hx hb hr (fun t ht hW => ⟨⟨0, (), rfl, Or.inl ⟨hq0, rfl⟩, by rw [ht]; exact hP2, _, by rw [ht]; exact ho2, fun _ => by unfold vp_updL; exact if_pos rfl⟩, hS2.F ht⟩) hS2.2.2 dL_cardOf_16
theorem mwL_106 : MWv RL 106 yX11_usedDays cX11_usedDays 2 (some .int) 1 := ⟨gw_t (tin6 (List.mem_of_getElem? (i := 165) rfl)) rfl, gw_t (tin6 (List.mem_of_getElem? (i := 166) rfl)) rfl, gw_t (tin6 (List.mem_of_getElem? (i := 167) rfl)) rfl, gw_t (tin1 (List.mem_of_getElem? (i := 1) rfl)) rfl, gw_t (tin6 (List.mem_of_getElem? (i := 168) rfl)) rfl, by decide, by decide, by decide +kernel⟩
set_option maxHeartbeats 4000000 in
set_option maxRecDepth 100000 in
theorem wL_usedDays (l : Launch) (hst : l.stackTraces = false) (Γ : Wc) (ad : Nat → Nat → Nat) (o : Nat) (p1 : Int32) (σ : Sig) (q : Xe) (hF : f11_usedDays p1 σ = some q) (hq : q.1 = 0 ∨ q.1 = 2) : MWr l Γ ad o yL_usedDays cL_usedDays 4 [(0, 9, 12, 19)] 8 132 1 [.ref (ad 0 0), .int p1, .ref o] σ q [2] := by
  refine vx_ofWH (by decide) rfl ?_
  intro p e s m args below meth c s₁ B hml hv
  obtain ⟨rfl, ⟨hP, hK, hA, hZ, hV⟩, ⟨f, hf⟩, ho, hNC⟩ := hv
  have hx := B.exec
  have hb := B.bytes
  have hr := B.returns
  have hnl := B.notSynchronized
  have hts := atoms_spec (ws := .codeWith yL_usedDays cL_usedDays 4 (some .int) [(0, 9, 12, 19)] :: gw) B.pre
  have htg : ∀ w ∈ gw, w.before _ s = true := fun w h => hts w (List.mem_cons_of_mem _ h)
  have hown : s.vm.findClass RL = some m.cls := findClass_of_methodNamed B.named
  have htab := vx_table (x := yL_usedDays) B (hts _ List.mem_cons_self)
  have cx : CX SX Γ ad (AXs ad) RL cL_usedDays 4 p s m _ c := ⟨hx, hb, hml, hown, htg, hK, hA, hZ, hV⟩
  have hPS : PS SX Γ ad (AXs ad) s σ s.heap [] := ⟨hP, va_S.rf⟩
  have hS : va_S (fun z => AXs ad z ∨ z = o) s.heap s.heap [] := va_S.rf
  have hl := lv_entry ([.ref (ad 0 0), .int p1, .ref o]) (n := 4) (Nat.le_of_ble_eq_true rfl)
  rw [lg_entry_eq]
  generalize (lg_sl ([.ref (ad 0 0), .int p1, .ref o]) ++ List.replicate (4 - (lg_sl ([.ref (ad 0 0), .int p1, .ref o])).length) Slot.unset).toArray = ls at hl ⊢
  have hl : lv_has ls 4 [(0, .ref (ad 0 0)), (1, .int p1), (2, .ref o)] := hl
  refine lv_aload_n hx hb dL_usedDays_0 rfl (lv_at hl 2 rfl) ?_
  refine lv_iconst (v := 0) hx hb dL_usedDays_1 (by decide) ?_
  refine lv_aload_n hx hb dL_usedDays_2 rfl (lv_at hl 0 rfl) ?_
  refine lv_iload_n hx hb dL_usedDays_3 rfl (lv_at hl 1 rfl) ?_
  refine vx_calli (vx_runV (As := [.int p1]) (rest := [.int 0, .ref o]) (fixOf cx) (w11_usedDays l hst Γ ad (AXs ad) p1 σ q hF) (mwL_106.callB cx ⟨Nat.le_of_ble_eq_true rfl, Nat.le_of_ble_eq_true rfl⟩) ⟨Pre.blind, recvOf cx hPS (dXr (by decide)) rfl rfl, fun U hU hW => ⟨rfl, cx.pre hPS hU hW⟩⟩ rfl rfl hl.1 rfl (lv_room (Nat.le_of_ble_eq_true rfl)) dL_usedDays_4 ⟨Nat.le_of_ble_eq_true rfl, Nat.le_of_ble_eq_true rfl⟩) hS (fun q _ h => Or.inl h) (fun q h => Or.inl h) (fun q _ h => Or.inl h) (fun E ce q9 u t H1 locs1 ht hvm hu hb' hz hf' hS hce hcv hcl => ?_) (fun r u t H1 locs1 ht hvm hw hB hz1 hk1 hS => ?_)
  · have ho1 := hf.kept (by rw [hf' o hf.lt ho])
    obtain ⟨hE, hB⟩ := hb'
    rw [ht] at hB
    have hu0 : q.1 ≠ 0 := hu
    refine vx_widen (k := 1) (n := 6) (Nat.le_of_ble_eq_true rfl) (Nat.le_of_ble_eq_true rfl) ?_
    rcases hq with h | h
    · exact absurd h hu0
    · rw [h] at hE
      cases hE
      refine vx_catch hown [] _ _ htab (fun z hz => nomatch hz) (by decide) (by decide) (htg (.classLink RL 19 "java/lang/IndexOutOfBoundsException") (gw_t (tin5 (List.mem_of_getElem? (i := 87) rfl)) rfl)) (va_Nw.use rfl (hV.1 _ (List.mem_filter.mpr ⟨(tin5 (List.mem_of_getElem? (i := 102) rfl)), rfl⟩))) hce hcv hcl ?_
      refine lv_astore_n (lv' := [(3, .ref q9), (0, .ref (ad 0 0)), (1, .int p1), (2, .ref o)]) hx hb dL_usedDays_12 rfl hl (by decide) rfl (fun ls hl => ?_)
      refine lv_iconst (v := 1) hx hb dL_usedDays_13 (by decide) ?_
      refine vx_ret ?_
      exact W.iret (v := 1) hx hb hr (fun t ht hW => ⟨⟨1, (), rfl, Or.inr ⟨0, by rw [h]; rfl, hu0, rfl⟩, by rw [ht]; exact hB, f, by rw [ht]; exact ho1, fun e => absurd e hu0⟩, hS.F ht⟩) hS.2.2 dL_usedDays_14
  · obtain ⟨hq0, rfl⟩ := hw
    rw [ht] at hB
    have ho1 := hf.kept (hk1 o hf.lt ho)
    refine lv_i2l hx hb dL_usedDays_7 rfl ?_
    refine W.last hx hb ho1 ((hK.2 5 _ rfl).1 1 (fun j => .long (f j))) (fun q => by cases q) (by show ¬ ((0 : Int32) < 0 ∨ (arrV _ _ _).slots.size ≤ _); rw [arrV_size]; exact (by unfold vp_in; decide : vp_in 0 1)) rfl rfl dL_usedDays_8 fun H2 e2 z oq => ?_
    have hno : ∀ g c, dX g c → ad g c ≠ o := fun g c hd e => ho ⟨g, c, hd, e.symm⟩
    have hP2 : PX SX Γ ad q.2.2 H2 := fun g c hd => (hB g c hd).kept (oq _ (hno g c hd))
    have ho2 : va_at Γ.1 vwCl (oC Γ o (vp_updL f 0 q.2.1.toInt64)) H2 := out_put e2
    have hS2 := hS.put (k := (0 : Int32).toNatClampNeg) z oq (Or.inr rfl : (fun z => AXs ad z ∨ z = o) o)
    refine W.eq (g2 := F0 m 9 ls []) rfl ?_
    refine lv_goto (tgt := 15) hx hb dL_usedDays_9 (by decide) ?_
    refine lv_iconst (v := 0) hx hb dL_usedDays_15 (by decide) ?_
    refine W.widen (k := 1) (n := 6) (Nat.le_of_ble_eq_true rfl) (Nat.le_of_ble_eq_true rfl) ?_
    refine vx_ret ?_
    exact W.iret (v := 0) hx hb hr (fun t ht hW => ⟨⟨0, (), rfl, Or.inl ⟨hq0, rfl⟩, by rw [ht]; exact hP2, _, by rw [ht]; exact ho2, fun _ => by unfold vp_updL; exact if_pos rfl⟩, hS2.F ht⟩) hS2.2.2 dL_usedDays_16
theorem mwL_109 : MWv RL 109 yX11_visitsWith cX11_visitsWith 2 (some .int) 1 := ⟨gw_t (tin6 (List.mem_of_getElem? (i := 173) rfl)) rfl, gw_t (tin6 (List.mem_of_getElem? (i := 174) rfl)) rfl, gw_t (tin6 (List.mem_of_getElem? (i := 175) rfl)) rfl, gw_t (tin1 (List.mem_of_getElem? (i := 1) rfl)) rfl, gw_t (tin6 (List.mem_of_getElem? (i := 176) rfl)) rfl, by decide, by decide, by decide +kernel⟩
set_option maxHeartbeats 4000000 in
set_option maxRecDepth 100000 in
theorem wL_visitsWith (l : Launch) (hst : l.stackTraces = false) (Γ : Wc) (ad : Nat → Nat → Nat) (o : Nat) (p1 : Int32) (σ : Sig) (q : Xe) (hF : f11_visitsWith p1 σ = some q) (hq : q.1 = 0 ∨ q.1 = 2) : MWr l Γ ad o yL_visitsWith cL_visitsWith 4 [(0, 9, 12, 19)] 8 132 1 [.ref (ad 0 0), .int p1, .ref o] σ q [2] := by
  refine vx_ofWH (by decide) rfl ?_
  intro p e s m args below meth c s₁ B hml hv
  obtain ⟨rfl, ⟨hP, hK, hA, hZ, hV⟩, ⟨f, hf⟩, ho, hNC⟩ := hv
  have hx := B.exec
  have hb := B.bytes
  have hr := B.returns
  have hnl := B.notSynchronized
  have hts := atoms_spec (ws := .codeWith yL_visitsWith cL_visitsWith 4 (some .int) [(0, 9, 12, 19)] :: gw) B.pre
  have htg : ∀ w ∈ gw, w.before _ s = true := fun w h => hts w (List.mem_cons_of_mem _ h)
  have hown : s.vm.findClass RL = some m.cls := findClass_of_methodNamed B.named
  have htab := vx_table (x := yL_visitsWith) B (hts _ List.mem_cons_self)
  have cx : CX SX Γ ad (AXs ad) RL cL_visitsWith 4 p s m _ c := ⟨hx, hb, hml, hown, htg, hK, hA, hZ, hV⟩
  have hPS : PS SX Γ ad (AXs ad) s σ s.heap [] := ⟨hP, va_S.rf⟩
  have hS : va_S (fun z => AXs ad z ∨ z = o) s.heap s.heap [] := va_S.rf
  have hl := lv_entry ([.ref (ad 0 0), .int p1, .ref o]) (n := 4) (Nat.le_of_ble_eq_true rfl)
  rw [lg_entry_eq]
  generalize (lg_sl ([.ref (ad 0 0), .int p1, .ref o]) ++ List.replicate (4 - (lg_sl ([.ref (ad 0 0), .int p1, .ref o])).length) Slot.unset).toArray = ls at hl ⊢
  have hl : lv_has ls 4 [(0, .ref (ad 0 0)), (1, .int p1), (2, .ref o)] := hl
  refine lv_aload_n hx hb dL_visitsWith_0 rfl (lv_at hl 2 rfl) ?_
  refine lv_iconst (v := 0) hx hb dL_visitsWith_1 (by decide) ?_
  refine lv_aload_n hx hb dL_visitsWith_2 rfl (lv_at hl 0 rfl) ?_
  refine lv_iload_n hx hb dL_visitsWith_3 rfl (lv_at hl 1 rfl) ?_
  refine vx_calli (vx_runV (As := [.int p1]) (rest := [.int 0, .ref o]) (fixOf cx) (w11_visitsWith l hst Γ ad (AXs ad) p1 σ q hF) (mwL_109.callB cx ⟨Nat.le_of_ble_eq_true rfl, Nat.le_of_ble_eq_true rfl⟩) ⟨Pre.blind, recvOf cx hPS (dXr (by decide)) rfl rfl, fun U hU hW => ⟨rfl, cx.pre hPS hU hW⟩⟩ rfl rfl hl.1 rfl (lv_room (Nat.le_of_ble_eq_true rfl)) dL_visitsWith_4 ⟨Nat.le_of_ble_eq_true rfl, Nat.le_of_ble_eq_true rfl⟩) hS (fun q _ h => Or.inl h) (fun q h => Or.inl h) (fun q _ h => Or.inl h) (fun E ce q9 u t H1 locs1 ht hvm hu hb' hz hf' hS hce hcv hcl => ?_) (fun r u t H1 locs1 ht hvm hw hB hz1 hk1 hS => ?_)
  · have ho1 := hf.kept (by rw [hf' o hf.lt ho])
    obtain ⟨hE, hB⟩ := hb'
    rw [ht] at hB
    have hu0 : q.1 ≠ 0 := hu
    refine vx_widen (k := 1) (n := 6) (Nat.le_of_ble_eq_true rfl) (Nat.le_of_ble_eq_true rfl) ?_
    rcases hq with h | h
    · exact absurd h hu0
    · rw [h] at hE
      cases hE
      refine vx_catch hown [] _ _ htab (fun z hz => nomatch hz) (by decide) (by decide) (htg (.classLink RL 19 "java/lang/IndexOutOfBoundsException") (gw_t (tin5 (List.mem_of_getElem? (i := 87) rfl)) rfl)) (va_Nw.use rfl (hV.1 _ (List.mem_filter.mpr ⟨(tin5 (List.mem_of_getElem? (i := 102) rfl)), rfl⟩))) hce hcv hcl ?_
      refine lv_astore_n (lv' := [(3, .ref q9), (0, .ref (ad 0 0)), (1, .int p1), (2, .ref o)]) hx hb dL_visitsWith_12 rfl hl (by decide) rfl (fun ls hl => ?_)
      refine lv_iconst (v := 1) hx hb dL_visitsWith_13 (by decide) ?_
      refine vx_ret ?_
      exact W.iret (v := 1) hx hb hr (fun t ht hW => ⟨⟨1, (), rfl, Or.inr ⟨0, by rw [h]; rfl, hu0, rfl⟩, by rw [ht]; exact hB, f, by rw [ht]; exact ho1, fun e => absurd e hu0⟩, hS.F ht⟩) hS.2.2 dL_visitsWith_14
  · obtain ⟨hq0, rfl⟩ := hw
    rw [ht] at hB
    have ho1 := hf.kept (hk1 o hf.lt ho)
    refine lv_i2l hx hb dL_visitsWith_7 rfl ?_
    refine W.last hx hb ho1 ((hK.2 5 _ rfl).1 1 (fun j => .long (f j))) (fun q => by cases q) (by show ¬ ((0 : Int32) < 0 ∨ (arrV _ _ _).slots.size ≤ _); rw [arrV_size]; exact (by unfold vp_in; decide : vp_in 0 1)) rfl rfl dL_visitsWith_8 fun H2 e2 z oq => ?_
    have hno : ∀ g c, dX g c → ad g c ≠ o := fun g c hd e => ho ⟨g, c, hd, e.symm⟩
    have hP2 : PX SX Γ ad q.2.2 H2 := fun g c hd => (hB g c hd).kept (oq _ (hno g c hd))
    have ho2 : va_at Γ.1 vwCl (oC Γ o (vp_updL f 0 q.2.1.toInt64)) H2 := out_put e2
    have hS2 := hS.put (k := (0 : Int32).toNatClampNeg) z oq (Or.inr rfl : (fun z => AXs ad z ∨ z = o) o)
    refine W.eq (g2 := F0 m 9 ls []) rfl ?_
    refine lv_goto (tgt := 15) hx hb dL_visitsWith_9 (by decide) ?_
    refine lv_iconst (v := 0) hx hb dL_visitsWith_15 (by decide) ?_
    refine W.widen (k := 1) (n := 6) (Nat.le_of_ble_eq_true rfl) (Nat.le_of_ble_eq_true rfl) ?_
    refine vx_ret ?_
    exact W.iret (v := 0) hx hb hr (fun t ht hW => ⟨⟨0, (), rfl, Or.inl ⟨hq0, rfl⟩, by rw [ht]; exact hP2, _, by rw [ht]; exact ho2, fun _ => by unfold vp_updL; exact if_pos rfl⟩, hS2.F ht⟩) hS2.2.2 dL_visitsWith_16
theorem mwL_112 : MWv RL 112 yX11_refundOf cX11_refundOf 2 (some .int) 1 := ⟨gw_t (tin6 (List.mem_of_getElem? (i := 180) rfl)) rfl, gw_t (tin6 (List.mem_of_getElem? (i := 181) rfl)) rfl, gw_t (tin6 (List.mem_of_getElem? (i := 182) rfl)) rfl, gw_t (tin1 (List.mem_of_getElem? (i := 1) rfl)) rfl, gw_t (tin6 (List.mem_of_getElem? (i := 183) rfl)) rfl, by decide, by decide, by decide +kernel⟩
set_option maxHeartbeats 4000000 in
set_option maxRecDepth 100000 in
theorem wL_refundOf (l : Launch) (hst : l.stackTraces = false) (Γ : Wc) (ad : Nat → Nat → Nat) (o : Nat) (p1 : Int32) (σ : Sig) (q : Xe) (hF : f11_refundOf p1 σ = some q) (hq : q.1 = 0 ∨ q.1 = 2) : MWr l Γ ad o yL_refundOf cL_refundOf 4 [(0, 9, 12, 19)] 8 132 1 [.ref (ad 0 0), .int p1, .ref o] σ q [2] := by
  refine vx_ofWH (by decide) rfl ?_
  intro p e s m args below meth c s₁ B hml hv
  obtain ⟨rfl, ⟨hP, hK, hA, hZ, hV⟩, ⟨f, hf⟩, ho, hNC⟩ := hv
  have hx := B.exec
  have hb := B.bytes
  have hr := B.returns
  have hnl := B.notSynchronized
  have hts := atoms_spec (ws := .codeWith yL_refundOf cL_refundOf 4 (some .int) [(0, 9, 12, 19)] :: gw) B.pre
  have htg : ∀ w ∈ gw, w.before _ s = true := fun w h => hts w (List.mem_cons_of_mem _ h)
  have hown : s.vm.findClass RL = some m.cls := findClass_of_methodNamed B.named
  have htab := vx_table (x := yL_refundOf) B (hts _ List.mem_cons_self)
  have cx : CX SX Γ ad (AXs ad) RL cL_refundOf 4 p s m _ c := ⟨hx, hb, hml, hown, htg, hK, hA, hZ, hV⟩
  have hPS : PS SX Γ ad (AXs ad) s σ s.heap [] := ⟨hP, va_S.rf⟩
  have hS : va_S (fun z => AXs ad z ∨ z = o) s.heap s.heap [] := va_S.rf
  have hl := lv_entry ([.ref (ad 0 0), .int p1, .ref o]) (n := 4) (Nat.le_of_ble_eq_true rfl)
  rw [lg_entry_eq]
  generalize (lg_sl ([.ref (ad 0 0), .int p1, .ref o]) ++ List.replicate (4 - (lg_sl ([.ref (ad 0 0), .int p1, .ref o])).length) Slot.unset).toArray = ls at hl ⊢
  have hl : lv_has ls 4 [(0, .ref (ad 0 0)), (1, .int p1), (2, .ref o)] := hl
  refine lv_aload_n hx hb dL_refundOf_0 rfl (lv_at hl 2 rfl) ?_
  refine lv_iconst (v := 0) hx hb dL_refundOf_1 (by decide) ?_
  refine lv_aload_n hx hb dL_refundOf_2 rfl (lv_at hl 0 rfl) ?_
  refine lv_iload_n hx hb dL_refundOf_3 rfl (lv_at hl 1 rfl) ?_
  refine vx_calli (vx_runV (As := [.int p1]) (rest := [.int 0, .ref o]) (fixOf cx) (w11_refundOf l hst Γ ad (AXs ad) p1 σ q hF) (mwL_112.callB cx ⟨Nat.le_of_ble_eq_true rfl, Nat.le_of_ble_eq_true rfl⟩) ⟨Pre.blind, recvOf cx hPS (dXr (by decide)) rfl rfl, fun U hU hW => ⟨rfl, cx.pre hPS hU hW⟩⟩ rfl rfl hl.1 rfl (lv_room (Nat.le_of_ble_eq_true rfl)) dL_refundOf_4 ⟨Nat.le_of_ble_eq_true rfl, Nat.le_of_ble_eq_true rfl⟩) hS (fun q _ h => Or.inl h) (fun q h => Or.inl h) (fun q _ h => Or.inl h) (fun E ce q9 u t H1 locs1 ht hvm hu hb' hz hf' hS hce hcv hcl => ?_) (fun r u t H1 locs1 ht hvm hw hB hz1 hk1 hS => ?_)
  · have ho1 := hf.kept (by rw [hf' o hf.lt ho])
    obtain ⟨hE, hB⟩ := hb'
    rw [ht] at hB
    have hu0 : q.1 ≠ 0 := hu
    refine vx_widen (k := 1) (n := 6) (Nat.le_of_ble_eq_true rfl) (Nat.le_of_ble_eq_true rfl) ?_
    rcases hq with h | h
    · exact absurd h hu0
    · rw [h] at hE
      cases hE
      refine vx_catch hown [] _ _ htab (fun z hz => nomatch hz) (by decide) (by decide) (htg (.classLink RL 19 "java/lang/IndexOutOfBoundsException") (gw_t (tin5 (List.mem_of_getElem? (i := 87) rfl)) rfl)) (va_Nw.use rfl (hV.1 _ (List.mem_filter.mpr ⟨(tin5 (List.mem_of_getElem? (i := 102) rfl)), rfl⟩))) hce hcv hcl ?_
      refine lv_astore_n (lv' := [(3, .ref q9), (0, .ref (ad 0 0)), (1, .int p1), (2, .ref o)]) hx hb dL_refundOf_12 rfl hl (by decide) rfl (fun ls hl => ?_)
      refine lv_iconst (v := 1) hx hb dL_refundOf_13 (by decide) ?_
      refine vx_ret ?_
      exact W.iret (v := 1) hx hb hr (fun t ht hW => ⟨⟨1, (), rfl, Or.inr ⟨0, by rw [h]; rfl, hu0, rfl⟩, by rw [ht]; exact hB, f, by rw [ht]; exact ho1, fun e => absurd e hu0⟩, hS.F ht⟩) hS.2.2 dL_refundOf_14
  · obtain ⟨hq0, rfl⟩ := hw
    rw [ht] at hB
    have ho1 := hf.kept (hk1 o hf.lt ho)
    refine lv_i2l hx hb dL_refundOf_7 rfl ?_
    refine W.last hx hb ho1 ((hK.2 5 _ rfl).1 1 (fun j => .long (f j))) (fun q => by cases q) (by show ¬ ((0 : Int32) < 0 ∨ (arrV _ _ _).slots.size ≤ _); rw [arrV_size]; exact (by unfold vp_in; decide : vp_in 0 1)) rfl rfl dL_refundOf_8 fun H2 e2 z oq => ?_
    have hno : ∀ g c, dX g c → ad g c ≠ o := fun g c hd e => ho ⟨g, c, hd, e.symm⟩
    have hP2 : PX SX Γ ad q.2.2 H2 := fun g c hd => (hB g c hd).kept (oq _ (hno g c hd))
    have ho2 : va_at Γ.1 vwCl (oC Γ o (vp_updL f 0 q.2.1.toInt64)) H2 := out_put e2
    have hS2 := hS.put (k := (0 : Int32).toNatClampNeg) z oq (Or.inr rfl : (fun z => AXs ad z ∨ z = o) o)
    refine W.eq (g2 := F0 m 9 ls []) rfl ?_
    refine lv_goto (tgt := 15) hx hb dL_refundOf_9 (by decide) ?_
    refine lv_iconst (v := 0) hx hb dL_refundOf_15 (by decide) ?_
    refine W.widen (k := 1) (n := 6) (Nat.le_of_ble_eq_true rfl) (Nat.le_of_ble_eq_true rfl) ?_
    refine vx_ret ?_
    exact W.iret (v := 0) hx hb hr (fun t ht hW => ⟨⟨0, (), rfl, Or.inl ⟨hq0, rfl⟩, by rw [ht]; exact hP2, _, by rw [ht]; exact ho2, fun _ => by unfold vp_updL; exact if_pos rfl⟩, hS2.F ht⟩) hS2.2.2 dL_refundOf_16
theorem mwL_115 : MWv RL 115 yX11_owed cX11_owed 2 (some .int) 1 := ⟨gw_t (tin6 (List.mem_of_getElem? (i := 188) rfl)) rfl, gw_t (tin6 (List.mem_of_getElem? (i := 189) rfl)) rfl, gw_t (tin6 (List.mem_of_getElem? (i := 190) rfl)) rfl, gw_t (tin1 (List.mem_of_getElem? (i := 1) rfl)) rfl, gw_t (tin6 (List.mem_of_getElem? (i := 191) rfl)) rfl, by decide, by decide, by decide +kernel⟩
set_option maxHeartbeats 4000000 in
set_option maxRecDepth 100000 in
theorem wL_owed (l : Launch) (hst : l.stackTraces = false) (Γ : Wc) (ad : Nat → Nat → Nat) (o : Nat) (p1 : Int32) (σ : Sig) (q : Xe) (hF : f11_owed p1 σ = some q) (hq : q.1 = 0 ∨ q.1 = 2) : MWr l Γ ad o yL_owed cL_owed 4 [(0, 9, 12, 19)] 8 132 1 [.ref (ad 0 0), .int p1, .ref o] σ q [2] := by
  refine vx_ofWH (by decide) rfl ?_
  intro p e s m args below meth c s₁ B hml hv
  obtain ⟨rfl, ⟨hP, hK, hA, hZ, hV⟩, ⟨f, hf⟩, ho, hNC⟩ := hv
  have hx := B.exec
  have hb := B.bytes
  have hr := B.returns
  have hnl := B.notSynchronized
  have hts := atoms_spec (ws := .codeWith yL_owed cL_owed 4 (some .int) [(0, 9, 12, 19)] :: gw) B.pre
  have htg : ∀ w ∈ gw, w.before _ s = true := fun w h => hts w (List.mem_cons_of_mem _ h)
  have hown : s.vm.findClass RL = some m.cls := findClass_of_methodNamed B.named
  have htab := vx_table (x := yL_owed) B (hts _ List.mem_cons_self)
  have cx : CX SX Γ ad (AXs ad) RL cL_owed 4 p s m _ c := ⟨hx, hb, hml, hown, htg, hK, hA, hZ, hV⟩
  have hPS : PS SX Γ ad (AXs ad) s σ s.heap [] := ⟨hP, va_S.rf⟩
  have hS : va_S (fun z => AXs ad z ∨ z = o) s.heap s.heap [] := va_S.rf
  have hl := lv_entry ([.ref (ad 0 0), .int p1, .ref o]) (n := 4) (Nat.le_of_ble_eq_true rfl)
  rw [lg_entry_eq]
  generalize (lg_sl ([.ref (ad 0 0), .int p1, .ref o]) ++ List.replicate (4 - (lg_sl ([.ref (ad 0 0), .int p1, .ref o])).length) Slot.unset).toArray = ls at hl ⊢
  have hl : lv_has ls 4 [(0, .ref (ad 0 0)), (1, .int p1), (2, .ref o)] := hl
  refine lv_aload_n hx hb dL_owed_0 rfl (lv_at hl 2 rfl) ?_
  refine lv_iconst (v := 0) hx hb dL_owed_1 (by decide) ?_
  refine lv_aload_n hx hb dL_owed_2 rfl (lv_at hl 0 rfl) ?_
  refine lv_iload_n hx hb dL_owed_3 rfl (lv_at hl 1 rfl) ?_
  refine vx_calli (vx_runV (As := [.int p1]) (rest := [.int 0, .ref o]) (fixOf cx) (w11_owed l hst Γ ad (AXs ad) p1 σ q hF) (mwL_115.callB cx ⟨Nat.le_of_ble_eq_true rfl, Nat.le_of_ble_eq_true rfl⟩) ⟨Pre.blind, recvOf cx hPS (dXr (by decide)) rfl rfl, fun U hU hW => ⟨rfl, cx.pre hPS hU hW⟩⟩ rfl rfl hl.1 rfl (lv_room (Nat.le_of_ble_eq_true rfl)) dL_owed_4 ⟨Nat.le_of_ble_eq_true rfl, Nat.le_of_ble_eq_true rfl⟩) hS (fun q _ h => Or.inl h) (fun q h => Or.inl h) (fun q _ h => Or.inl h) (fun E ce q9 u t H1 locs1 ht hvm hu hb' hz hf' hS hce hcv hcl => ?_) (fun r u t H1 locs1 ht hvm hw hB hz1 hk1 hS => ?_)
  · have ho1 := hf.kept (by rw [hf' o hf.lt ho])
    obtain ⟨hE, hB⟩ := hb'
    rw [ht] at hB
    have hu0 : q.1 ≠ 0 := hu
    refine vx_widen (k := 1) (n := 6) (Nat.le_of_ble_eq_true rfl) (Nat.le_of_ble_eq_true rfl) ?_
    rcases hq with h | h
    · exact absurd h hu0
    · rw [h] at hE
      cases hE
      refine vx_catch hown [] _ _ htab (fun z hz => nomatch hz) (by decide) (by decide) (htg (.classLink RL 19 "java/lang/IndexOutOfBoundsException") (gw_t (tin5 (List.mem_of_getElem? (i := 87) rfl)) rfl)) (va_Nw.use rfl (hV.1 _ (List.mem_filter.mpr ⟨(tin5 (List.mem_of_getElem? (i := 102) rfl)), rfl⟩))) hce hcv hcl ?_
      refine lv_astore_n (lv' := [(3, .ref q9), (0, .ref (ad 0 0)), (1, .int p1), (2, .ref o)]) hx hb dL_owed_12 rfl hl (by decide) rfl (fun ls hl => ?_)
      refine lv_iconst (v := 1) hx hb dL_owed_13 (by decide) ?_
      refine vx_ret ?_
      exact W.iret (v := 1) hx hb hr (fun t ht hW => ⟨⟨1, (), rfl, Or.inr ⟨0, by rw [h]; rfl, hu0, rfl⟩, by rw [ht]; exact hB, f, by rw [ht]; exact ho1, fun e => absurd e hu0⟩, hS.F ht⟩) hS.2.2 dL_owed_14
  · obtain ⟨hq0, rfl⟩ := hw
    rw [ht] at hB
    have ho1 := hf.kept (hk1 o hf.lt ho)
    refine lv_i2l hx hb dL_owed_7 rfl ?_
    refine W.last hx hb ho1 ((hK.2 5 _ rfl).1 1 (fun j => .long (f j))) (fun q => by cases q) (by show ¬ ((0 : Int32) < 0 ∨ (arrV _ _ _).slots.size ≤ _); rw [arrV_size]; exact (by unfold vp_in; decide : vp_in 0 1)) rfl rfl dL_owed_8 fun H2 e2 z oq => ?_
    have hno : ∀ g c, dX g c → ad g c ≠ o := fun g c hd e => ho ⟨g, c, hd, e.symm⟩
    have hP2 : PX SX Γ ad q.2.2 H2 := fun g c hd => (hB g c hd).kept (oq _ (hno g c hd))
    have ho2 : va_at Γ.1 vwCl (oC Γ o (vp_updL f 0 q.2.1.toInt64)) H2 := out_put e2
    have hS2 := hS.put (k := (0 : Int32).toNatClampNeg) z oq (Or.inr rfl : (fun z => AXs ad z ∨ z = o) o)
    refine W.eq (g2 := F0 m 9 ls []) rfl ?_
    refine lv_goto (tgt := 15) hx hb dL_owed_9 (by decide) ?_
    refine lv_iconst (v := 0) hx hb dL_owed_15 (by decide) ?_
    refine W.widen (k := 1) (n := 6) (Nat.le_of_ble_eq_true rfl) (Nat.le_of_ble_eq_true rfl) ?_
    refine vx_ret ?_
    exact W.iret (v := 0) hx hb hr (fun t ht hW => ⟨⟨0, (), rfl, Or.inl ⟨hq0, rfl⟩, by rw [ht]; exact hP2, _, by rw [ht]; exact ho2, fun _ => by unfold vp_updL; exact if_pos rfl⟩, hS2.F ht⟩) hS2.2.2 dL_owed_16
theorem mwL_118 : MWv RL 118 yX11_ticksUntilReady cX11_ticksUntilReady 2 (some .int) 1 := ⟨gw_t (tin6 (List.mem_of_getElem? (i := 195) rfl)) rfl, gw_t (tin6 (List.mem_of_getElem? (i := 196) rfl)) rfl, gw_t (tin6 (List.mem_of_getElem? (i := 197) rfl)) rfl, gw_t (tin1 (List.mem_of_getElem? (i := 1) rfl)) rfl, gw_t (tin6 (List.mem_of_getElem? (i := 198) rfl)) rfl, by decide, by decide, by decide +kernel⟩
set_option maxHeartbeats 4000000 in
set_option maxRecDepth 100000 in
theorem wL_ticksUntilReady (l : Launch) (hst : l.stackTraces = false) (Γ : Wc) (ad : Nat → Nat → Nat) (o : Nat) (p1 : Int32) (σ : Sig) (q : Xe) (hF : f11_ticksUntilReady p1 σ = some q) (hq : q.1 = 0 ∨ q.1 = 2) : MWr l Γ ad o yL_ticksUntilReady cL_ticksUntilReady 4 [(0, 9, 12, 19)] 8 132 1 [.ref (ad 0 0), .int p1, .ref o] σ q [2] := by
  refine vx_ofWH (by decide) rfl ?_
  intro p e s m args below meth c s₁ B hml hv
  obtain ⟨rfl, ⟨hP, hK, hA, hZ, hV⟩, ⟨f, hf⟩, ho, hNC⟩ := hv
  have hx := B.exec
  have hb := B.bytes
  have hr := B.returns
  have hnl := B.notSynchronized
  have hts := atoms_spec (ws := .codeWith yL_ticksUntilReady cL_ticksUntilReady 4 (some .int) [(0, 9, 12, 19)] :: gw) B.pre
  have htg : ∀ w ∈ gw, w.before _ s = true := fun w h => hts w (List.mem_cons_of_mem _ h)
  have hown : s.vm.findClass RL = some m.cls := findClass_of_methodNamed B.named
  have htab := vx_table (x := yL_ticksUntilReady) B (hts _ List.mem_cons_self)
  have cx : CX SX Γ ad (AXs ad) RL cL_ticksUntilReady 4 p s m _ c := ⟨hx, hb, hml, hown, htg, hK, hA, hZ, hV⟩
  have hPS : PS SX Γ ad (AXs ad) s σ s.heap [] := ⟨hP, va_S.rf⟩
  have hS : va_S (fun z => AXs ad z ∨ z = o) s.heap s.heap [] := va_S.rf
  have hl := lv_entry ([.ref (ad 0 0), .int p1, .ref o]) (n := 4) (Nat.le_of_ble_eq_true rfl)
  rw [lg_entry_eq]
  generalize (lg_sl ([.ref (ad 0 0), .int p1, .ref o]) ++ List.replicate (4 - (lg_sl ([.ref (ad 0 0), .int p1, .ref o])).length) Slot.unset).toArray = ls at hl ⊢
  have hl : lv_has ls 4 [(0, .ref (ad 0 0)), (1, .int p1), (2, .ref o)] := hl
  refine lv_aload_n hx hb dL_ticksUntilReady_0 rfl (lv_at hl 2 rfl) ?_
  refine lv_iconst (v := 0) hx hb dL_ticksUntilReady_1 (by decide) ?_
  refine lv_aload_n hx hb dL_ticksUntilReady_2 rfl (lv_at hl 0 rfl) ?_
  refine lv_iload_n hx hb dL_ticksUntilReady_3 rfl (lv_at hl 1 rfl) ?_
  refine vx_calli (vx_runV (As := [.int p1]) (rest := [.int 0, .ref o]) (fixOf cx) (w11_ticksUntilReady l hst Γ ad (AXs ad) p1 σ q hF) (mwL_118.callB cx ⟨Nat.le_of_ble_eq_true rfl, Nat.le_of_ble_eq_true rfl⟩) ⟨Pre.blind, recvOf cx hPS (dXr (by decide)) rfl rfl, fun U hU hW => ⟨rfl, cx.pre hPS hU hW⟩⟩ rfl rfl hl.1 rfl (lv_room (Nat.le_of_ble_eq_true rfl)) dL_ticksUntilReady_4 ⟨Nat.le_of_ble_eq_true rfl, Nat.le_of_ble_eq_true rfl⟩) hS (fun q _ h => Or.inl h) (fun q h => Or.inl h) (fun q _ h => Or.inl h) (fun E ce q9 u t H1 locs1 ht hvm hu hb' hz hf' hS hce hcv hcl => ?_) (fun r u t H1 locs1 ht hvm hw hB hz1 hk1 hS => ?_)
  · have ho1 := hf.kept (by rw [hf' o hf.lt ho])
    obtain ⟨hE, hB⟩ := hb'
    rw [ht] at hB
    have hu0 : q.1 ≠ 0 := hu
    refine vx_widen (k := 1) (n := 6) (Nat.le_of_ble_eq_true rfl) (Nat.le_of_ble_eq_true rfl) ?_
    rcases hq with h | h
    · exact absurd h hu0
    · rw [h] at hE
      cases hE
      refine vx_catch hown [] _ _ htab (fun z hz => nomatch hz) (by decide) (by decide) (htg (.classLink RL 19 "java/lang/IndexOutOfBoundsException") (gw_t (tin5 (List.mem_of_getElem? (i := 87) rfl)) rfl)) (va_Nw.use rfl (hV.1 _ (List.mem_filter.mpr ⟨(tin5 (List.mem_of_getElem? (i := 102) rfl)), rfl⟩))) hce hcv hcl ?_
      refine lv_astore_n (lv' := [(3, .ref q9), (0, .ref (ad 0 0)), (1, .int p1), (2, .ref o)]) hx hb dL_ticksUntilReady_12 rfl hl (by decide) rfl (fun ls hl => ?_)
      refine lv_iconst (v := 1) hx hb dL_ticksUntilReady_13 (by decide) ?_
      refine vx_ret ?_
      exact W.iret (v := 1) hx hb hr (fun t ht hW => ⟨⟨1, (), rfl, Or.inr ⟨0, by rw [h]; rfl, hu0, rfl⟩, by rw [ht]; exact hB, f, by rw [ht]; exact ho1, fun e => absurd e hu0⟩, hS.F ht⟩) hS.2.2 dL_ticksUntilReady_14
  · obtain ⟨hq0, rfl⟩ := hw
    rw [ht] at hB
    have ho1 := hf.kept (hk1 o hf.lt ho)
    refine lv_i2l hx hb dL_ticksUntilReady_7 rfl ?_
    refine W.last hx hb ho1 ((hK.2 5 _ rfl).1 1 (fun j => .long (f j))) (fun q => by cases q) (by show ¬ ((0 : Int32) < 0 ∨ (arrV _ _ _).slots.size ≤ _); rw [arrV_size]; exact (by unfold vp_in; decide : vp_in 0 1)) rfl rfl dL_ticksUntilReady_8 fun H2 e2 z oq => ?_
    have hno : ∀ g c, dX g c → ad g c ≠ o := fun g c hd e => ho ⟨g, c, hd, e.symm⟩
    have hP2 : PX SX Γ ad q.2.2 H2 := fun g c hd => (hB g c hd).kept (oq _ (hno g c hd))
    have ho2 : va_at Γ.1 vwCl (oC Γ o (vp_updL f 0 q.2.1.toInt64)) H2 := out_put e2
    have hS2 := hS.put (k := (0 : Int32).toNatClampNeg) z oq (Or.inr rfl : (fun z => AXs ad z ∨ z = o) o)
    refine W.eq (g2 := F0 m 9 ls []) rfl ?_
    refine lv_goto (tgt := 15) hx hb dL_ticksUntilReady_9 (by decide) ?_
    refine lv_iconst (v := 0) hx hb dL_ticksUntilReady_15 (by decide) ?_
    refine W.widen (k := 1) (n := 6) (Nat.le_of_ble_eq_true rfl) (Nat.le_of_ble_eq_true rfl) ?_
    refine vx_ret ?_
    exact W.iret (v := 0) hx hb hr (fun t ht hW => ⟨⟨0, (), rfl, Or.inl ⟨hq0, rfl⟩, by rw [ht]; exact hP2, _, by rw [ht]; exact ho2, fun _ => by unfold vp_updL; exact if_pos rfl⟩, hS2.F ht⟩) hS2.2.2 dL_ticksUntilReady_16
theorem mwL_121 : MWv RL 121 yX11_passOf cX11_passOf 2 (some .int) 1 := ⟨gw_t (tin6 (List.mem_of_getElem? (i := 203) rfl)) rfl, gw_t (tin6 (List.mem_of_getElem? (i := 204) rfl)) rfl, gw_t (tin6 (List.mem_of_getElem? (i := 205) rfl)) rfl, gw_t (tin1 (List.mem_of_getElem? (i := 1) rfl)) rfl, gw_t (tin6 (List.mem_of_getElem? (i := 206) rfl)) rfl, by decide, by decide, by decide +kernel⟩
set_option maxHeartbeats 4000000 in
set_option maxRecDepth 100000 in
theorem wL_passOf (l : Launch) (hst : l.stackTraces = false) (Γ : Wc) (ad : Nat → Nat → Nat) (o : Nat) (p1 : Int32) (σ : Sig) (q : Xe) (hF : f11_passOf p1 σ = some q) (hq : q.1 = 0 ∨ q.1 = 2) : MWr l Γ ad o yL_passOf cL_passOf 4 [(0, 9, 12, 19)] 8 132 1 [.ref (ad 0 0), .int p1, .ref o] σ q [2] := by
  refine vx_ofWH (by decide) rfl ?_
  intro p e s m args below meth c s₁ B hml hv
  obtain ⟨rfl, ⟨hP, hK, hA, hZ, hV⟩, ⟨f, hf⟩, ho, hNC⟩ := hv
  have hx := B.exec
  have hb := B.bytes
  have hr := B.returns
  have hnl := B.notSynchronized
  have hts := atoms_spec (ws := .codeWith yL_passOf cL_passOf 4 (some .int) [(0, 9, 12, 19)] :: gw) B.pre
  have htg : ∀ w ∈ gw, w.before _ s = true := fun w h => hts w (List.mem_cons_of_mem _ h)
  have hown : s.vm.findClass RL = some m.cls := findClass_of_methodNamed B.named
  have htab := vx_table (x := yL_passOf) B (hts _ List.mem_cons_self)
  have cx : CX SX Γ ad (AXs ad) RL cL_passOf 4 p s m _ c := ⟨hx, hb, hml, hown, htg, hK, hA, hZ, hV⟩
  have hPS : PS SX Γ ad (AXs ad) s σ s.heap [] := ⟨hP, va_S.rf⟩
  have hS : va_S (fun z => AXs ad z ∨ z = o) s.heap s.heap [] := va_S.rf
  have hl := lv_entry ([.ref (ad 0 0), .int p1, .ref o]) (n := 4) (Nat.le_of_ble_eq_true rfl)
  rw [lg_entry_eq]
  generalize (lg_sl ([.ref (ad 0 0), .int p1, .ref o]) ++ List.replicate (4 - (lg_sl ([.ref (ad 0 0), .int p1, .ref o])).length) Slot.unset).toArray = ls at hl ⊢
  have hl : lv_has ls 4 [(0, .ref (ad 0 0)), (1, .int p1), (2, .ref o)] := hl
  refine lv_aload_n hx hb dL_passOf_0 rfl (lv_at hl 2 rfl) ?_
  refine lv_iconst (v := 0) hx hb dL_passOf_1 (by decide) ?_
  refine lv_aload_n hx hb dL_passOf_2 rfl (lv_at hl 0 rfl) ?_
  refine lv_iload_n hx hb dL_passOf_3 rfl (lv_at hl 1 rfl) ?_
  refine vx_calli (vx_runV (As := [.int p1]) (rest := [.int 0, .ref o]) (fixOf cx) (w11_passOf l hst Γ ad (AXs ad) p1 σ q hF) (mwL_121.callB cx ⟨Nat.le_of_ble_eq_true rfl, Nat.le_of_ble_eq_true rfl⟩) ⟨Pre.blind, recvOf cx hPS (dXr (by decide)) rfl rfl, fun U hU hW => ⟨rfl, cx.pre hPS hU hW⟩⟩ rfl rfl hl.1 rfl (lv_room (Nat.le_of_ble_eq_true rfl)) dL_passOf_4 ⟨Nat.le_of_ble_eq_true rfl, Nat.le_of_ble_eq_true rfl⟩) hS (fun q _ h => Or.inl h) (fun q h => Or.inl h) (fun q _ h => Or.inl h) (fun E ce q9 u t H1 locs1 ht hvm hu hb' hz hf' hS hce hcv hcl => ?_) (fun r u t H1 locs1 ht hvm hw hB hz1 hk1 hS => ?_)
  · have ho1 := hf.kept (by rw [hf' o hf.lt ho])
    obtain ⟨hE, hB⟩ := hb'
    rw [ht] at hB
    have hu0 : q.1 ≠ 0 := hu
    refine vx_widen (k := 1) (n := 6) (Nat.le_of_ble_eq_true rfl) (Nat.le_of_ble_eq_true rfl) ?_
    rcases hq with h | h
    · exact absurd h hu0
    · rw [h] at hE
      cases hE
      refine vx_catch hown [] _ _ htab (fun z hz => nomatch hz) (by decide) (by decide) (htg (.classLink RL 19 "java/lang/IndexOutOfBoundsException") (gw_t (tin5 (List.mem_of_getElem? (i := 87) rfl)) rfl)) (va_Nw.use rfl (hV.1 _ (List.mem_filter.mpr ⟨(tin5 (List.mem_of_getElem? (i := 102) rfl)), rfl⟩))) hce hcv hcl ?_
      refine lv_astore_n (lv' := [(3, .ref q9), (0, .ref (ad 0 0)), (1, .int p1), (2, .ref o)]) hx hb dL_passOf_12 rfl hl (by decide) rfl (fun ls hl => ?_)
      refine lv_iconst (v := 1) hx hb dL_passOf_13 (by decide) ?_
      refine vx_ret ?_
      exact W.iret (v := 1) hx hb hr (fun t ht hW => ⟨⟨1, (), rfl, Or.inr ⟨0, by rw [h]; rfl, hu0, rfl⟩, by rw [ht]; exact hB, f, by rw [ht]; exact ho1, fun e => absurd e hu0⟩, hS.F ht⟩) hS.2.2 dL_passOf_14
  · obtain ⟨hq0, rfl⟩ := hw
    rw [ht] at hB
    have ho1 := hf.kept (hk1 o hf.lt ho)
    refine lv_i2l hx hb dL_passOf_7 rfl ?_
    refine W.last hx hb ho1 ((hK.2 5 _ rfl).1 1 (fun j => .long (f j))) (fun q => by cases q) (by show ¬ ((0 : Int32) < 0 ∨ (arrV _ _ _).slots.size ≤ _); rw [arrV_size]; exact (by unfold vp_in; decide : vp_in 0 1)) rfl rfl dL_passOf_8 fun H2 e2 z oq => ?_
    have hno : ∀ g c, dX g c → ad g c ≠ o := fun g c hd e => ho ⟨g, c, hd, e.symm⟩
    have hP2 : PX SX Γ ad q.2.2 H2 := fun g c hd => (hB g c hd).kept (oq _ (hno g c hd))
    have ho2 : va_at Γ.1 vwCl (oC Γ o (vp_updL f 0 q.2.1.toInt64)) H2 := out_put e2
    have hS2 := hS.put (k := (0 : Int32).toNatClampNeg) z oq (Or.inr rfl : (fun z => AXs ad z ∨ z = o) o)
    refine W.eq (g2 := F0 m 9 ls []) rfl ?_
    refine lv_goto (tgt := 15) hx hb dL_passOf_9 (by decide) ?_
    refine lv_iconst (v := 0) hx hb dL_passOf_15 (by decide) ?_
    refine W.widen (k := 1) (n := 6) (Nat.le_of_ble_eq_true rfl) (Nat.le_of_ble_eq_true rfl) ?_
    refine vx_ret ?_
    exact W.iret (v := 0) hx hb hr (fun t ht hW => ⟨⟨0, (), rfl, Or.inl ⟨hq0, rfl⟩, by rw [ht]; exact hP2, _, by rw [ht]; exact ho2, fun _ => by unfold vp_updL; exact if_pos rfl⟩, hS2.F ht⟩) hS2.2.2 dL_passOf_16
theorem mwL_127 : MWv RL 127 yX11_whyRefused cX11_whyRefused 3 (some .int) 2 := ⟨gw_t (tin6 (List.mem_of_getElem? (i := 217) rfl)) rfl, gw_t (tin6 (List.mem_of_getElem? (i := 218) rfl)) rfl, gw_t (tin6 (List.mem_of_getElem? (i := 219) rfl)) rfl, gw_t (tin1 (List.mem_of_getElem? (i := 1) rfl)) rfl, gw_t (tin6 (List.mem_of_getElem? (i := 220) rfl)) rfl, by decide, by decide, by decide +kernel⟩
set_option maxHeartbeats 4000000 in
set_option maxRecDepth 100000 in
theorem wL_whyRefused (l : Launch) (hst : l.stackTraces = false) (Γ : Wc) (ad : Nat → Nat → Nat) (o : Nat) (p1 p2 : Int32) (σ : Sig) (q : Xe) (hF : f11_whyRefused p1 p2 σ = some q) (hq : q.1 = 0 ∨ q.1 = 2) : MWr l Γ ad o yL_whyRefused cL_whyRefused 5 [(0, 10, 13, 19)] 8 133 2 [.ref (ad 0 0), .int p1, .int p2, .ref o] σ q [2] := by
  refine vx_ofWH (by decide) rfl ?_
  intro p e s m args below meth c s₁ B hml hv
  obtain ⟨rfl, ⟨hP, hK, hA, hZ, hV⟩, ⟨f, hf⟩, ho, hNC⟩ := hv
  have hx := B.exec
  have hb := B.bytes
  have hr := B.returns
  have hnl := B.notSynchronized
  have hts := atoms_spec (ws := .codeWith yL_whyRefused cL_whyRefused 5 (some .int) [(0, 10, 13, 19)] :: gw) B.pre
  have htg : ∀ w ∈ gw, w.before _ s = true := fun w h => hts w (List.mem_cons_of_mem _ h)
  have hown : s.vm.findClass RL = some m.cls := findClass_of_methodNamed B.named
  have htab := vx_table (x := yL_whyRefused) B (hts _ List.mem_cons_self)
  have cx : CX SX Γ ad (AXs ad) RL cL_whyRefused 5 p s m _ c := ⟨hx, hb, hml, hown, htg, hK, hA, hZ, hV⟩
  have hPS : PS SX Γ ad (AXs ad) s σ s.heap [] := ⟨hP, va_S.rf⟩
  have hS : va_S (fun z => AXs ad z ∨ z = o) s.heap s.heap [] := va_S.rf
  have hl := lv_entry ([.ref (ad 0 0), .int p1, .int p2, .ref o]) (n := 5) (Nat.le_of_ble_eq_true rfl)
  rw [lg_entry_eq]
  generalize (lg_sl ([.ref (ad 0 0), .int p1, .int p2, .ref o]) ++ List.replicate (5 - (lg_sl ([.ref (ad 0 0), .int p1, .int p2, .ref o])).length) Slot.unset).toArray = ls at hl ⊢
  have hl : lv_has ls 5 [(0, .ref (ad 0 0)), (1, .int p1), (2, .int p2), (3, .ref o)] := hl
  refine lv_aload_n hx hb dL_whyRefused_0 rfl (lv_at hl 3 rfl) ?_
  refine lv_iconst (v := 0) hx hb dL_whyRefused_1 (by decide) ?_
  refine lv_aload_n hx hb dL_whyRefused_2 rfl (lv_at hl 0 rfl) ?_
  refine lv_iload_n hx hb dL_whyRefused_3 rfl (lv_at hl 1 rfl) ?_
  refine lv_iload_n hx hb dL_whyRefused_4 rfl (lv_at hl 2 rfl) ?_
  refine vx_calli (vx_runV (As := [.int p1, .int p2]) (rest := [.int 0, .ref o]) (fixOf cx) (w11_whyRefused l hst Γ ad (AXs ad) p1 p2 σ q hF) (mwL_127.callB cx ⟨Nat.le_of_ble_eq_true rfl, Nat.le_of_ble_eq_true rfl⟩) ⟨Pre.blind, recvOf cx hPS (dXr (by decide)) rfl rfl, fun U hU hW => ⟨rfl, cx.pre hPS hU hW⟩⟩ rfl rfl hl.1 rfl (lv_room (Nat.le_of_ble_eq_true rfl)) dL_whyRefused_5 ⟨Nat.le_of_ble_eq_true rfl, Nat.le_of_ble_eq_true rfl⟩) hS (fun q _ h => Or.inl h) (fun q h => Or.inl h) (fun q _ h => Or.inl h) (fun E ce q9 u t H1 locs1 ht hvm hu hb' hz hf' hS hce hcv hcl => ?_) (fun r u t H1 locs1 ht hvm hw hB hz1 hk1 hS => ?_)
  · have ho1 := hf.kept (by rw [hf' o hf.lt ho])
    obtain ⟨hE, hB⟩ := hb'
    rw [ht] at hB
    have hu0 : q.1 ≠ 0 := hu
    refine vx_widen (k := 2) (n := 12) (Nat.le_of_ble_eq_true rfl) (Nat.le_of_ble_eq_true rfl) ?_
    rcases hq with h | h
    · exact absurd h hu0
    · rw [h] at hE
      cases hE
      refine vx_catch hown [] _ _ htab (fun z hz => nomatch hz) (by decide) (by decide) (htg (.classLink RL 19 "java/lang/IndexOutOfBoundsException") (gw_t (tin5 (List.mem_of_getElem? (i := 87) rfl)) rfl)) (va_Nw.use rfl (hV.1 _ (List.mem_filter.mpr ⟨(tin5 (List.mem_of_getElem? (i := 102) rfl)), rfl⟩))) hce hcv hcl ?_
      refine lv_astore (lv' := [(4, .ref q9), (0, .ref (ad 0 0)), (1, .int p1), (2, .int p2), (3, .ref o)]) hx hb dL_whyRefused_13 hl (by decide) rfl (fun ls hl => ?_)
      refine lv_iconst (v := 1) hx hb dL_whyRefused_15 (by decide) ?_
      refine vx_ret ?_
      exact W.iret (v := 1) hx hb hr (fun t ht hW => ⟨⟨1, (), rfl, Or.inr ⟨0, by rw [h]; rfl, hu0, rfl⟩, by rw [ht]; exact hB, f, by rw [ht]; exact ho1, fun e => absurd e hu0⟩, hS.F ht⟩) hS.2.2 dL_whyRefused_16
  · obtain ⟨hq0, rfl⟩ := hw
    rw [ht] at hB
    have ho1 := hf.kept (hk1 o hf.lt ho)
    refine lv_i2l hx hb dL_whyRefused_8 rfl ?_
    refine W.last hx hb ho1 ((hK.2 5 _ rfl).1 1 (fun j => .long (f j))) (fun q => by cases q) (by show ¬ ((0 : Int32) < 0 ∨ (arrV _ _ _).slots.size ≤ _); rw [arrV_size]; exact (by unfold vp_in; decide : vp_in 0 1)) rfl rfl dL_whyRefused_9 fun H2 e2 z oq => ?_
    have hno : ∀ g c, dX g c → ad g c ≠ o := fun g c hd e => ho ⟨g, c, hd, e.symm⟩
    have hP2 : PX SX Γ ad q.2.2 H2 := fun g c hd => (hB g c hd).kept (oq _ (hno g c hd))
    have ho2 : va_at Γ.1 vwCl (oC Γ o (vp_updL f 0 q.2.1.toInt64)) H2 := out_put e2
    have hS2 := hS.put (k := (0 : Int32).toNatClampNeg) z oq (Or.inr rfl : (fun z => AXs ad z ∨ z = o) o)
    refine W.eq (g2 := F0 m 10 ls []) rfl ?_
    refine lv_goto (tgt := 17) hx hb dL_whyRefused_10 (by decide) ?_
    refine lv_iconst (v := 0) hx hb dL_whyRefused_17 (by decide) ?_
    refine W.widen (k := 2) (n := 12) (Nat.le_of_ble_eq_true rfl) (Nat.le_of_ble_eq_true rfl) ?_
    refine vx_ret ?_
    exact W.iret (v := 0) hx hb hr (fun t ht hW => ⟨⟨0, (), rfl, Or.inl ⟨hq0, rfl⟩, by rw [ht]; exact hP2, _, by rw [ht]; exact ho2, fun _ => by unfold vp_updL; exact if_pos rfl⟩, hS2.F ht⟩) hS2.2.2 dL_whyRefused_18
theorem mwL_130 : MWv RL 130 yX11_sign cX11_sign 4 (some .int) 2 := ⟨gw_t (tin6 (List.mem_of_getElem? (i := 225) rfl)) rfl, gw_t (tin6 (List.mem_of_getElem? (i := 226) rfl)) rfl, gw_t (tin6 (List.mem_of_getElem? (i := 227) rfl)) rfl, gw_t (tin1 (List.mem_of_getElem? (i := 1) rfl)) rfl, gw_t (tin6 (List.mem_of_getElem? (i := 228) rfl)) rfl, by decide, by decide, by decide +kernel⟩
set_option maxHeartbeats 4000000 in
set_option maxRecDepth 100000 in
theorem wL_sign (l : Launch) (hst : l.stackTraces = false) (Γ : Wc) (ad : Nat → Nat → Nat) (o : Nat) (p1 p2 : Int32) (σ : Sig) (q : Xe) (hF : f11_sign p1 p2 σ = some q) (hq : q.1 = 0 ∨ q.1 = 2) : MWr l Γ ad o yL_sign cL_sign 5 [(0, 10, 13, 19)] 8 134 2 [.ref (ad 0 0), .int p1, .int p2, .ref o] σ q [2] := by
  refine vx_ofWH (by decide) rfl ?_
  intro p e s m args below meth c s₁ B hml hv
  obtain ⟨rfl, ⟨hP, hK, hA, hZ, hV⟩, ⟨f, hf⟩, ho, hNC⟩ := hv
  have hx := B.exec
  have hb := B.bytes
  have hr := B.returns
  have hnl := B.notSynchronized
  have hts := atoms_spec (ws := .codeWith yL_sign cL_sign 5 (some .int) [(0, 10, 13, 19)] :: gw) B.pre
  have htg : ∀ w ∈ gw, w.before _ s = true := fun w h => hts w (List.mem_cons_of_mem _ h)
  have hown : s.vm.findClass RL = some m.cls := findClass_of_methodNamed B.named
  have htab := vx_table (x := yL_sign) B (hts _ List.mem_cons_self)
  have cx : CX SX Γ ad (AXs ad) RL cL_sign 5 p s m _ c := ⟨hx, hb, hml, hown, htg, hK, hA, hZ, hV⟩
  have hPS : PS SX Γ ad (AXs ad) s σ s.heap [] := ⟨hP, va_S.rf⟩
  have hS : va_S (fun z => AXs ad z ∨ z = o) s.heap s.heap [] := va_S.rf
  have hl := lv_entry ([.ref (ad 0 0), .int p1, .int p2, .ref o]) (n := 5) (Nat.le_of_ble_eq_true rfl)
  rw [lg_entry_eq]
  generalize (lg_sl ([.ref (ad 0 0), .int p1, .int p2, .ref o]) ++ List.replicate (5 - (lg_sl ([.ref (ad 0 0), .int p1, .int p2, .ref o])).length) Slot.unset).toArray = ls at hl ⊢
  have hl : lv_has ls 5 [(0, .ref (ad 0 0)), (1, .int p1), (2, .int p2), (3, .ref o)] := hl
  refine lv_aload_n hx hb dL_sign_0 rfl (lv_at hl 3 rfl) ?_
  refine lv_iconst (v := 0) hx hb dL_sign_1 (by decide) ?_
  refine lv_aload_n hx hb dL_sign_2 rfl (lv_at hl 0 rfl) ?_
  refine lv_iload_n hx hb dL_sign_3 rfl (lv_at hl 1 rfl) ?_
  refine lv_iload_n hx hb dL_sign_4 rfl (lv_at hl 2 rfl) ?_
  refine vx_calli (vx_runV (As := [.int p1, .int p2]) (rest := [.int 0, .ref o]) (fixOf cx) (w11_sign l hst Γ ad (AXs ad) p1 p2 σ q hF) (mwL_130.callB cx ⟨Nat.le_of_ble_eq_true rfl, Nat.le_of_ble_eq_true rfl⟩) ⟨Pre.blind, recvOf cx hPS (dXr (by decide)) rfl rfl, fun U hU hW => ⟨rfl, cx.pre hPS hU hW⟩⟩ rfl rfl hl.1 rfl (lv_room (Nat.le_of_ble_eq_true rfl)) dL_sign_5 ⟨Nat.le_of_ble_eq_true rfl, Nat.le_of_ble_eq_true rfl⟩) hS (fun q _ h => Or.inl h) (fun q h => Or.inl h) (fun q _ h => Or.inl h) (fun E ce q9 u t H1 locs1 ht hvm hu hb' hz hf' hS hce hcv hcl => ?_) (fun r u t H1 locs1 ht hvm hw hB hz1 hk1 hS => ?_)
  · have ho1 := hf.kept (by rw [hf' o hf.lt ho])
    obtain ⟨hE, hB⟩ := hb'
    rw [ht] at hB
    have hu0 : q.1 ≠ 0 := hu
    refine vx_widen (k := 2) (n := 12) (Nat.le_of_ble_eq_true rfl) (Nat.le_of_ble_eq_true rfl) ?_
    rcases hq with h | h
    · exact absurd h hu0
    · rw [h] at hE
      cases hE
      refine vx_catch hown [] _ _ htab (fun z hz => nomatch hz) (by decide) (by decide) (htg (.classLink RL 19 "java/lang/IndexOutOfBoundsException") (gw_t (tin5 (List.mem_of_getElem? (i := 87) rfl)) rfl)) (va_Nw.use rfl (hV.1 _ (List.mem_filter.mpr ⟨(tin5 (List.mem_of_getElem? (i := 102) rfl)), rfl⟩))) hce hcv hcl ?_
      refine lv_astore (lv' := [(4, .ref q9), (0, .ref (ad 0 0)), (1, .int p1), (2, .int p2), (3, .ref o)]) hx hb dL_sign_13 hl (by decide) rfl (fun ls hl => ?_)
      refine lv_iconst (v := 1) hx hb dL_sign_15 (by decide) ?_
      refine vx_ret ?_
      exact W.iret (v := 1) hx hb hr (fun t ht hW => ⟨⟨1, (), rfl, Or.inr ⟨0, by rw [h]; rfl, hu0, rfl⟩, by rw [ht]; exact hB, f, by rw [ht]; exact ho1, fun e => absurd e hu0⟩, hS.F ht⟩) hS.2.2 dL_sign_16
  · obtain ⟨hq0, rfl⟩ := hw
    rw [ht] at hB
    have ho1 := hf.kept (hk1 o hf.lt ho)
    refine lv_i2l hx hb dL_sign_8 rfl ?_
    refine W.last hx hb ho1 ((hK.2 5 _ rfl).1 1 (fun j => .long (f j))) (fun q => by cases q) (by show ¬ ((0 : Int32) < 0 ∨ (arrV _ _ _).slots.size ≤ _); rw [arrV_size]; exact (by unfold vp_in; decide : vp_in 0 1)) rfl rfl dL_sign_9 fun H2 e2 z oq => ?_
    have hno : ∀ g c, dX g c → ad g c ≠ o := fun g c hd e => ho ⟨g, c, hd, e.symm⟩
    have hP2 : PX SX Γ ad q.2.2 H2 := fun g c hd => (hB g c hd).kept (oq _ (hno g c hd))
    have ho2 : va_at Γ.1 vwCl (oC Γ o (vp_updL f 0 q.2.1.toInt64)) H2 := out_put e2
    have hS2 := hS.put (k := (0 : Int32).toNatClampNeg) z oq (Or.inr rfl : (fun z => AXs ad z ∨ z = o) o)
    refine W.eq (g2 := F0 m 10 ls []) rfl ?_
    refine lv_goto (tgt := 17) hx hb dL_sign_10 (by decide) ?_
    refine lv_iconst (v := 0) hx hb dL_sign_17 (by decide) ?_
    refine W.widen (k := 2) (n := 12) (Nat.le_of_ble_eq_true rfl) (Nat.le_of_ble_eq_true rfl) ?_
    refine vx_ret ?_
    exact W.iret (v := 0) hx hb hr (fun t ht hW => ⟨⟨0, (), rfl, Or.inl ⟨hq0, rfl⟩, by rw [ht]; exact hP2, _, by rw [ht]; exact ho2, fun _ => by unfold vp_updL; exact if_pos rfl⟩, hS2.F ht⟩) hS2.2.2 dL_sign_18
theorem mwL_133 : MWv RL 133 yX11_bedsFor cX11_bedsFor 2 (some .int) 1 := ⟨gw_t (tin6 (List.mem_of_getElem? (i := 232) rfl)) rfl, gw_t (tin6 (List.mem_of_getElem? (i := 233) rfl)) rfl, gw_t (tin6 (List.mem_of_getElem? (i := 234) rfl)) rfl, gw_t (tin1 (List.mem_of_getElem? (i := 1) rfl)) rfl, gw_t (tin6 (List.mem_of_getElem? (i := 235) rfl)) rfl, by decide, by decide, by decide +kernel⟩
set_option maxHeartbeats 4000000 in
set_option maxRecDepth 100000 in
theorem wL_bedsFor (l : Launch) (hst : l.stackTraces = false) (Γ : Wc) (ad : Nat → Nat → Nat) (o : Nat) (p1 : Int32) (σ : Sig) (q : Xe) (hF : f11_bedsFor p1 σ = some q) (hq : q.1 = 0 ∨ q.1 = 2) : MWr l Γ ad o yL_bedsFor cL_bedsFor 4 [(0, 9, 12, 19)] 8 132 1 [.ref (ad 0 0), .int p1, .ref o] σ q [2] := by
  refine vx_ofWH (by decide) rfl ?_
  intro p e s m args below meth c s₁ B hml hv
  obtain ⟨rfl, ⟨hP, hK, hA, hZ, hV⟩, ⟨f, hf⟩, ho, hNC⟩ := hv
  have hx := B.exec
  have hb := B.bytes
  have hr := B.returns
  have hnl := B.notSynchronized
  have hts := atoms_spec (ws := .codeWith yL_bedsFor cL_bedsFor 4 (some .int) [(0, 9, 12, 19)] :: gw) B.pre
  have htg : ∀ w ∈ gw, w.before _ s = true := fun w h => hts w (List.mem_cons_of_mem _ h)
  have hown : s.vm.findClass RL = some m.cls := findClass_of_methodNamed B.named
  have htab := vx_table (x := yL_bedsFor) B (hts _ List.mem_cons_self)
  have cx : CX SX Γ ad (AXs ad) RL cL_bedsFor 4 p s m _ c := ⟨hx, hb, hml, hown, htg, hK, hA, hZ, hV⟩
  have hPS : PS SX Γ ad (AXs ad) s σ s.heap [] := ⟨hP, va_S.rf⟩
  have hS : va_S (fun z => AXs ad z ∨ z = o) s.heap s.heap [] := va_S.rf
  have hl := lv_entry ([.ref (ad 0 0), .int p1, .ref o]) (n := 4) (Nat.le_of_ble_eq_true rfl)
  rw [lg_entry_eq]
  generalize (lg_sl ([.ref (ad 0 0), .int p1, .ref o]) ++ List.replicate (4 - (lg_sl ([.ref (ad 0 0), .int p1, .ref o])).length) Slot.unset).toArray = ls at hl ⊢
  have hl : lv_has ls 4 [(0, .ref (ad 0 0)), (1, .int p1), (2, .ref o)] := hl
  refine lv_aload_n hx hb dL_bedsFor_0 rfl (lv_at hl 2 rfl) ?_
  refine lv_iconst (v := 0) hx hb dL_bedsFor_1 (by decide) ?_
  refine lv_aload_n hx hb dL_bedsFor_2 rfl (lv_at hl 0 rfl) ?_
  refine lv_iload_n hx hb dL_bedsFor_3 rfl (lv_at hl 1 rfl) ?_
  refine vx_calli (vx_runV (As := [.int p1]) (rest := [.int 0, .ref o]) (fixOf cx) (w11_bedsFor l hst Γ ad (AXs ad) p1 σ q hF) (mwL_133.callB cx ⟨Nat.le_of_ble_eq_true rfl, Nat.le_of_ble_eq_true rfl⟩) ⟨Pre.blind, recvOf cx hPS (dXr (by decide)) rfl rfl, fun U hU hW => ⟨rfl, cx.pre hPS hU hW⟩⟩ rfl rfl hl.1 rfl (lv_room (Nat.le_of_ble_eq_true rfl)) dL_bedsFor_4 ⟨Nat.le_of_ble_eq_true rfl, Nat.le_of_ble_eq_true rfl⟩) hS (fun q _ h => Or.inl h) (fun q h => Or.inl h) (fun q _ h => Or.inl h) (fun E ce q9 u t H1 locs1 ht hvm hu hb' hz hf' hS hce hcv hcl => ?_) (fun r u t H1 locs1 ht hvm hw hB hz1 hk1 hS => ?_)
  · have ho1 := hf.kept (by rw [hf' o hf.lt ho])
    obtain ⟨hE, hB⟩ := hb'
    rw [ht] at hB
    have hu0 : q.1 ≠ 0 := hu
    refine vx_widen (k := 1) (n := 6) (Nat.le_of_ble_eq_true rfl) (Nat.le_of_ble_eq_true rfl) ?_
    rcases hq with h | h
    · exact absurd h hu0
    · rw [h] at hE
      cases hE
      refine vx_catch hown [] _ _ htab (fun z hz => nomatch hz) (by decide) (by decide) (htg (.classLink RL 19 "java/lang/IndexOutOfBoundsException") (gw_t (tin5 (List.mem_of_getElem? (i := 87) rfl)) rfl)) (va_Nw.use rfl (hV.1 _ (List.mem_filter.mpr ⟨(tin5 (List.mem_of_getElem? (i := 102) rfl)), rfl⟩))) hce hcv hcl ?_
      refine lv_astore_n (lv' := [(3, .ref q9), (0, .ref (ad 0 0)), (1, .int p1), (2, .ref o)]) hx hb dL_bedsFor_12 rfl hl (by decide) rfl (fun ls hl => ?_)
      refine lv_iconst (v := 1) hx hb dL_bedsFor_13 (by decide) ?_
      refine vx_ret ?_
      exact W.iret (v := 1) hx hb hr (fun t ht hW => ⟨⟨1, (), rfl, Or.inr ⟨0, by rw [h]; rfl, hu0, rfl⟩, by rw [ht]; exact hB, f, by rw [ht]; exact ho1, fun e => absurd e hu0⟩, hS.F ht⟩) hS.2.2 dL_bedsFor_14
  · obtain ⟨hq0, rfl⟩ := hw
    rw [ht] at hB
    have ho1 := hf.kept (hk1 o hf.lt ho)
    refine lv_i2l hx hb dL_bedsFor_7 rfl ?_
    refine W.last hx hb ho1 ((hK.2 5 _ rfl).1 1 (fun j => .long (f j))) (fun q => by cases q) (by show ¬ ((0 : Int32) < 0 ∨ (arrV _ _ _).slots.size ≤ _); rw [arrV_size]; exact (by unfold vp_in; decide : vp_in 0 1)) rfl rfl dL_bedsFor_8 fun H2 e2 z oq => ?_
    have hno : ∀ g c, dX g c → ad g c ≠ o := fun g c hd e => ho ⟨g, c, hd, e.symm⟩
    have hP2 : PX SX Γ ad q.2.2 H2 := fun g c hd => (hB g c hd).kept (oq _ (hno g c hd))
    have ho2 : va_at Γ.1 vwCl (oC Γ o (vp_updL f 0 q.2.1.toInt64)) H2 := out_put e2
    have hS2 := hS.put (k := (0 : Int32).toNatClampNeg) z oq (Or.inr rfl : (fun z => AXs ad z ∨ z = o) o)
    refine W.eq (g2 := F0 m 9 ls []) rfl ?_
    refine lv_goto (tgt := 15) hx hb dL_bedsFor_9 (by decide) ?_
    refine lv_iconst (v := 0) hx hb dL_bedsFor_15 (by decide) ?_
    refine W.widen (k := 1) (n := 6) (Nat.le_of_ble_eq_true rfl) (Nat.le_of_ble_eq_true rfl) ?_
    refine vx_ret ?_
    exact W.iret (v := 0) hx hb hr (fun t ht hW => ⟨⟨0, (), rfl, Or.inl ⟨hq0, rfl⟩, by rw [ht]; exact hP2, _, by rw [ht]; exact ho2, fun _ => by unfold vp_updL; exact if_pos rfl⟩, hS2.F ht⟩) hS2.2.2 dL_bedsFor_16
theorem mwL_136 : MWv RL 136 yX11_quote cX11_quote 4 (some .int) 3 := ⟨gw_t (tin7 (List.mem_of_getElem? (i := 3) rfl)) rfl, gw_t (tin7 (List.mem_of_getElem? (i := 4) rfl)) rfl, gw_t (tin7 (List.mem_of_getElem? (i := 5) rfl)) rfl, gw_t (tin1 (List.mem_of_getElem? (i := 1) rfl)) rfl, gw_t (tin7 (List.mem_of_getElem? (i := 6) rfl)) rfl, by decide, by decide, by decide +kernel⟩
set_option maxHeartbeats 4000000 in
set_option maxRecDepth 100000 in
theorem wL_quote (l : Launch) (hst : l.stackTraces = false) (Γ : Wc) (ad : Nat → Nat → Nat) (o : Nat) (p1 p2 p3 : Int32) (σ : Sig) (q : Xe) (hF : f11_quote p1 p2 p3 σ = some q) (hq : q.1 = 0 ∨ q.1 = 1) : MWr l Γ ad o yL_quote cL_quote 6 [(0, 12, 15, 13)] 9 156 3 [.ref (ad 0 0), .int p1, .int p2, .int p3, .ref o] σ q [1] := by
  refine vx_ofWH (by decide) rfl ?_
  intro p e s m args below meth c s₁ B hml hv
  obtain ⟨rfl, ⟨hP, hK, hA, hZ, hV⟩, ⟨f, hf⟩, ho, hNC⟩ := hv
  have hx := B.exec
  have hb := B.bytes
  have hr := B.returns
  have hnl := B.notSynchronized
  have hts := atoms_spec (ws := .codeWith yL_quote cL_quote 6 (some .int) [(0, 12, 15, 13)] :: gw) B.pre
  have htg : ∀ w ∈ gw, w.before _ s = true := fun w h => hts w (List.mem_cons_of_mem _ h)
  have hown : s.vm.findClass RL = some m.cls := findClass_of_methodNamed B.named
  have htab := vx_table (x := yL_quote) B (hts _ List.mem_cons_self)
  have cx : CX SX Γ ad (AXs ad) RL cL_quote 6 p s m _ c := ⟨hx, hb, hml, hown, htg, hK, hA, hZ, hV⟩
  have hPS : PS SX Γ ad (AXs ad) s σ s.heap [] := ⟨hP, va_S.rf⟩
  have hS : va_S (fun z => AXs ad z ∨ z = o) s.heap s.heap [] := va_S.rf
  have hl := lv_entry ([.ref (ad 0 0), .int p1, .int p2, .int p3, .ref o]) (n := 6) (Nat.le_of_ble_eq_true rfl)
  rw [lg_entry_eq]
  generalize (lg_sl ([.ref (ad 0 0), .int p1, .int p2, .int p3, .ref o]) ++ List.replicate (6 - (lg_sl ([.ref (ad 0 0), .int p1, .int p2, .int p3, .ref o])).length) Slot.unset).toArray = ls at hl ⊢
  have hl : lv_has ls 6 [(0, .ref (ad 0 0)), (1, .int p1), (2, .int p2), (3, .int p3), (4, .ref o)] := hl
  refine lv_aload hx hb dL_quote_0 (lv_at hl 4 rfl) ?_
  refine lv_iconst (v := 0) hx hb dL_quote_2 (by decide) ?_
  refine lv_aload_n hx hb dL_quote_3 rfl (lv_at hl 0 rfl) ?_
  refine lv_iload_n hx hb dL_quote_4 rfl (lv_at hl 1 rfl) ?_
  refine lv_iload_n hx hb dL_quote_5 rfl (lv_at hl 2 rfl) ?_
  refine lv_iload_n hx hb dL_quote_6 rfl (lv_at hl 3 rfl) ?_
  refine vx_calli (vx_runV (As := [.int p1, .int p2, .int p3]) (rest := [.int 0, .ref o]) (fixOf cx) (w11_quote l hst Γ ad (AXs ad) p1 p2 p3 σ q hF) (mwL_136.callB cx ⟨Nat.le_of_ble_eq_true rfl, Nat.le_of_ble_eq_true rfl⟩) ⟨Pre.blind, recvOf cx hPS (dXr (by decide)) rfl rfl, fun U hU hW => ⟨rfl, cx.pre hPS hU hW⟩⟩ rfl rfl hl.1 rfl (lv_room (Nat.le_of_ble_eq_true rfl)) dL_quote_7 ⟨Nat.le_of_ble_eq_true rfl, Nat.le_of_ble_eq_true rfl⟩) hS (fun q _ h => Or.inl h) (fun q h => Or.inl h) (fun q _ h => Or.inl h) (fun E ce q9 u t H1 locs1 ht hvm hu hb' hz hf' hS hce hcv hcl => ?_) (fun r u t H1 locs1 ht hvm hw hB hz1 hk1 hS => ?_)
  · have ho1 := hf.kept (by rw [hf' o hf.lt ho])
    obtain ⟨hE, hB⟩ := hb'
    rw [ht] at hB
    have hu0 : q.1 ≠ 0 := hu
    refine vx_widen (k := 3) (n := 18) (Nat.le_of_ble_eq_true rfl) (Nat.le_of_ble_eq_true rfl) ?_
    rcases hq with h | h
    · exact absurd h hu0
    · rw [h] at hE
      cases hE
      refine vx_catch hown [] _ _ htab (fun z hz => nomatch hz) (by decide) (by decide) (htg (.classLink RL 13 "java/lang/IllegalArgumentException") (gw_t (tin5 (List.mem_of_getElem? (i := 8) rfl)) rfl)) (va_Nw.use rfl (hV.1 _ (List.mem_filter.mpr ⟨(tin5 (List.mem_of_getElem? (i := 18) rfl)), rfl⟩))) hce hcv hcl ?_
      refine lv_astore (lv' := [(5, .ref q9), (0, .ref (ad 0 0)), (1, .int p1), (2, .int p2), (3, .int p3), (4, .ref o)]) hx hb dL_quote_15 hl (by decide) rfl (fun ls hl => ?_)
      refine lv_iconst (v := 1) hx hb dL_quote_17 (by decide) ?_
      refine vx_ret ?_
      exact W.iret (v := 1) hx hb hr (fun t ht hW => ⟨⟨1, (), rfl, Or.inr ⟨0, by rw [h]; rfl, hu0, rfl⟩, by rw [ht]; exact hB, f, by rw [ht]; exact ho1, fun e => absurd e hu0⟩, hS.F ht⟩) hS.2.2 dL_quote_18
  · obtain ⟨hq0, rfl⟩ := hw
    rw [ht] at hB
    have ho1 := hf.kept (hk1 o hf.lt ho)
    refine lv_i2l hx hb dL_quote_10 rfl ?_
    refine W.last hx hb ho1 ((hK.2 5 _ rfl).1 1 (fun j => .long (f j))) (fun q => by cases q) (by show ¬ ((0 : Int32) < 0 ∨ (arrV _ _ _).slots.size ≤ _); rw [arrV_size]; exact (by unfold vp_in; decide : vp_in 0 1)) rfl rfl dL_quote_11 fun H2 e2 z oq => ?_
    have hno : ∀ g c, dX g c → ad g c ≠ o := fun g c hd e => ho ⟨g, c, hd, e.symm⟩
    have hP2 : PX SX Γ ad q.2.2 H2 := fun g c hd => (hB g c hd).kept (oq _ (hno g c hd))
    have ho2 : va_at Γ.1 vwCl (oC Γ o (vp_updL f 0 q.2.1.toInt64)) H2 := out_put e2
    have hS2 := hS.put (k := (0 : Int32).toNatClampNeg) z oq (Or.inr rfl : (fun z => AXs ad z ∨ z = o) o)
    refine W.eq (g2 := F0 m 12 ls []) rfl ?_
    refine lv_goto (tgt := 19) hx hb dL_quote_12 (by decide) ?_
    refine lv_iconst (v := 0) hx hb dL_quote_19 (by decide) ?_
    refine W.widen (k := 3) (n := 18) (Nat.le_of_ble_eq_true rfl) (Nat.le_of_ble_eq_true rfl) ?_
    refine vx_ret ?_
    exact W.iret (v := 0) hx hb hr (fun t ht hW => ⟨⟨0, (), rfl, Or.inl ⟨hq0, rfl⟩, by rw [ht]; exact hP2, _, by rw [ht]; exact ho2, fun _ => by unfold vp_updL; exact if_pos rfl⟩, hS2.F ht⟩) hS2.2.2 dL_quote_20
theorem mwL_140 : MWv RL 140 yX11_fineFor cX11_fineFor 3 (some .int) 2 := ⟨gw_t (tin7 (List.mem_of_getElem? (i := 11) rfl)) rfl, gw_t (tin7 (List.mem_of_getElem? (i := 12) rfl)) rfl, gw_t (tin7 (List.mem_of_getElem? (i := 13) rfl)) rfl, gw_t (tin1 (List.mem_of_getElem? (i := 1) rfl)) rfl, gw_t (tin7 (List.mem_of_getElem? (i := 14) rfl)) rfl, by decide, by decide, by decide +kernel⟩
set_option maxHeartbeats 4000000 in
set_option maxRecDepth 100000 in
theorem wL_fineFor (l : Launch) (hst : l.stackTraces = false) (Γ : Wc) (ad : Nat → Nat → Nat) (o : Nat) (p1 p2 : Int32) (σ : Sig) (q : Xe) (hF : f11_fineFor p1 p2 σ = some q) (hq : q.1 = 0 ∨ q.1 = 2 ∨ q.1 = 1) : MWr l Γ ad o yL_fineFor cL_fineFor 5 [(0, 10, 13, 19), (0, 10, 17, 13)] 8 134 2 [.ref (ad 0 0), .int p1, .int p2, .ref o] σ q [2, 1] := by
  refine vx_ofWH (by decide) rfl ?_
  intro p e s m args below meth c s₁ B hml hv
  obtain ⟨rfl, ⟨hP, hK, hA, hZ, hV⟩, ⟨f, hf⟩, ho, hNC⟩ := hv
  have hx := B.exec
  have hb := B.bytes
  have hr := B.returns
  have hnl := B.notSynchronized
  have hts := atoms_spec (ws := .codeWith yL_fineFor cL_fineFor 5 (some .int) [(0, 10, 13, 19), (0, 10, 17, 13)] :: gw) B.pre
  have htg : ∀ w ∈ gw, w.before _ s = true := fun w h => hts w (List.mem_cons_of_mem _ h)
  have hown : s.vm.findClass RL = some m.cls := findClass_of_methodNamed B.named
  have htab := vx_table (x := yL_fineFor) B (hts _ List.mem_cons_self)
  have cx : CX SX Γ ad (AXs ad) RL cL_fineFor 5 p s m _ c := ⟨hx, hb, hml, hown, htg, hK, hA, hZ, hV⟩
  have hPS : PS SX Γ ad (AXs ad) s σ s.heap [] := ⟨hP, va_S.rf⟩
  have hS : va_S (fun z => AXs ad z ∨ z = o) s.heap s.heap [] := va_S.rf
  have hl := lv_entry ([.ref (ad 0 0), .int p1, .int p2, .ref o]) (n := 5) (Nat.le_of_ble_eq_true rfl)
  rw [lg_entry_eq]
  generalize (lg_sl ([.ref (ad 0 0), .int p1, .int p2, .ref o]) ++ List.replicate (5 - (lg_sl ([.ref (ad 0 0), .int p1, .int p2, .ref o])).length) Slot.unset).toArray = ls at hl ⊢
  have hl : lv_has ls 5 [(0, .ref (ad 0 0)), (1, .int p1), (2, .int p2), (3, .ref o)] := hl
  refine lv_aload_n hx hb dL_fineFor_0 rfl (lv_at hl 3 rfl) ?_
  refine lv_iconst (v := 0) hx hb dL_fineFor_1 (by decide) ?_
  refine lv_aload_n hx hb dL_fineFor_2 rfl (lv_at hl 0 rfl) ?_
  refine lv_iload_n hx hb dL_fineFor_3 rfl (lv_at hl 1 rfl) ?_
  refine lv_iload_n hx hb dL_fineFor_4 rfl (lv_at hl 2 rfl) ?_
  refine vx_calli (vx_runV (As := [.int p1, .int p2]) (rest := [.int 0, .ref o]) (fixOf cx) (w11_fineFor l hst Γ ad (AXs ad) p1 p2 σ q hF) (mwL_140.callB cx ⟨Nat.le_of_ble_eq_true rfl, Nat.le_of_ble_eq_true rfl⟩) ⟨Pre.blind, recvOf cx hPS (dXr (by decide)) rfl rfl, fun U hU hW => ⟨rfl, cx.pre hPS hU hW⟩⟩ rfl rfl hl.1 rfl (lv_room (Nat.le_of_ble_eq_true rfl)) dL_fineFor_5 ⟨Nat.le_of_ble_eq_true rfl, Nat.le_of_ble_eq_true rfl⟩) hS (fun q _ h => Or.inl h) (fun q h => Or.inl h) (fun q _ h => Or.inl h) (fun E ce q9 u t H1 locs1 ht hvm hu hb' hz hf' hS hce hcv hcl => ?_) (fun r u t H1 locs1 ht hvm hw hB hz1 hk1 hS => ?_)
  · have ho1 := hf.kept (by rw [hf' o hf.lt ho])
    obtain ⟨hE, hB⟩ := hb'
    rw [ht] at hB
    have hu0 : q.1 ≠ 0 := hu
    refine vx_widen (k := 2) (n := 12) (Nat.le_of_ble_eq_true rfl) (Nat.le_of_ble_eq_true rfl) ?_
    rcases hq with h | h | h
    · exact absurd h hu0
    · rw [h] at hE
      cases hE
      refine vx_catch hown [] _ _ htab (fun z hz => nomatch hz) (by decide) (by decide) (htg (.classLink RL 19 "java/lang/IndexOutOfBoundsException") (gw_t (tin5 (List.mem_of_getElem? (i := 87) rfl)) rfl)) (va_Nw.use rfl (hV.1 _ (List.mem_filter.mpr ⟨(tin5 (List.mem_of_getElem? (i := 102) rfl)), rfl⟩))) hce hcv hcl ?_
      refine lv_astore (lv' := [(4, .ref q9), (0, .ref (ad 0 0)), (1, .int p1), (2, .int p2), (3, .ref o)]) hx hb dL_fineFor_13 hl (by decide) rfl (fun ls hl => ?_)
      refine lv_iconst (v := 1) hx hb dL_fineFor_15 (by decide) ?_
      refine vx_ret ?_
      exact W.iret (v := 1) hx hb hr (fun t ht hW => ⟨⟨1, (), rfl, Or.inr ⟨0, by rw [h]; rfl, hu0, rfl⟩, by rw [ht]; exact hB, f, by rw [ht]; exact ho1, fun e => absurd e hu0⟩, hS.F ht⟩) hS.2.2 dL_fineFor_16
    · rw [h] at hE
      cases hE
      refine vx_catch hown [_] _ _ htab (fun z hz => Or.inr ⟨by rw [List.mem_singleton.mp hz]; decide, "java/lang/IndexOutOfBoundsException", by rw [List.mem_singleton.mp hz]; exact htg (.classLink RL 19 "java/lang/IndexOutOfBoundsException") (gw_t (tin5 (List.mem_of_getElem? (i := 87) rfl)) rfl), hNC 1 (by decide) (by decide) 2 (by decide) (by decide) (by decide)⟩) (by decide) (by decide) (htg (.classLink RL 13 "java/lang/IllegalArgumentException") (gw_t (tin5 (List.mem_of_getElem? (i := 8) rfl)) rfl)) (va_Nw.use rfl (hV.1 _ (List.mem_filter.mpr ⟨(tin5 (List.mem_of_getElem? (i := 18) rfl)), rfl⟩))) hce hcv hcl ?_
      refine lv_astore (lv' := [(4, .ref q9), (0, .ref (ad 0 0)), (1, .int p1), (2, .int p2), (3, .ref o)]) hx hb dL_fineFor_17 hl (by decide) rfl (fun ls hl => ?_)
      refine lv_iconst (v := 2) hx hb dL_fineFor_19 (by decide) ?_
      refine vx_ret ?_
      exact W.iret (v := 2) hx hb hr (fun t ht hW => ⟨⟨2, (), rfl, Or.inr ⟨1, by rw [h]; rfl, hu0, rfl⟩, by rw [ht]; exact hB, f, by rw [ht]; exact ho1, fun e => absurd e hu0⟩, hS.F ht⟩) hS.2.2 dL_fineFor_20
  · obtain ⟨hq0, rfl⟩ := hw
    rw [ht] at hB
    have ho1 := hf.kept (hk1 o hf.lt ho)
    refine lv_i2l hx hb dL_fineFor_8 rfl ?_
    refine W.last hx hb ho1 ((hK.2 5 _ rfl).1 1 (fun j => .long (f j))) (fun q => by cases q) (by show ¬ ((0 : Int32) < 0 ∨ (arrV _ _ _).slots.size ≤ _); rw [arrV_size]; exact (by unfold vp_in; decide : vp_in 0 1)) rfl rfl dL_fineFor_9 fun H2 e2 z oq => ?_
    have hno : ∀ g c, dX g c → ad g c ≠ o := fun g c hd e => ho ⟨g, c, hd, e.symm⟩
    have hP2 : PX SX Γ ad q.2.2 H2 := fun g c hd => (hB g c hd).kept (oq _ (hno g c hd))
    have ho2 : va_at Γ.1 vwCl (oC Γ o (vp_updL f 0 q.2.1.toInt64)) H2 := out_put e2
    have hS2 := hS.put (k := (0 : Int32).toNatClampNeg) z oq (Or.inr rfl : (fun z => AXs ad z ∨ z = o) o)
    refine W.eq (g2 := F0 m 10 ls []) rfl ?_
    refine lv_goto (tgt := 21) hx hb dL_fineFor_10 (by decide) ?_
    refine lv_iconst (v := 0) hx hb dL_fineFor_21 (by decide) ?_
    refine W.widen (k := 2) (n := 12) (Nat.le_of_ble_eq_true rfl) (Nat.le_of_ble_eq_true rfl) ?_
    refine vx_ret ?_
    exact W.iret (v := 0) hx hb hr (fun t ht hW => ⟨⟨0, (), rfl, Or.inl ⟨hq0, rfl⟩, by rw [ht]; exact hP2, _, by rw [ht]; exact ho2, fun _ => by unfold vp_updL; exact if_pos rfl⟩, hS2.F ht⟩) hS2.2.2 dL_fineFor_22
theorem mwL_143 : MWv RL 143 yX11_writePass cX11_writePass 2 (some .int) 1 := ⟨gw_t (tin7 (List.mem_of_getElem? (i := 19) rfl)) rfl, gw_t (tin7 (List.mem_of_getElem? (i := 20) rfl)) rfl, gw_t (tin7 (List.mem_of_getElem? (i := 21) rfl)) rfl, gw_t (tin1 (List.mem_of_getElem? (i := 1) rfl)) rfl, gw_t (tin7 (List.mem_of_getElem? (i := 22) rfl)) rfl, by decide, by decide, by decide +kernel⟩
set_option maxHeartbeats 4000000 in
set_option maxRecDepth 100000 in
theorem wL_writePass (l : Launch) (hst : l.stackTraces = false) (Γ : Wc) (ad : Nat → Nat → Nat) (o : Nat) (p1 : Int32) (σ : Sig) (q : Xe) (hF : f11_writePass p1 σ = some q) (hq : q.1 = 0 ∨ q.1 = 2) : MWr l Γ ad o yL_writePass cL_writePass 4 [(0, 9, 12, 19)] 8 132 1 [.ref (ad 0 0), .int p1, .ref o] σ q [2] := by
  refine vx_ofWH (by decide) rfl ?_
  intro p e s m args below meth c s₁ B hml hv
  obtain ⟨rfl, ⟨hP, hK, hA, hZ, hV⟩, ⟨f, hf⟩, ho, hNC⟩ := hv
  have hx := B.exec
  have hb := B.bytes
  have hr := B.returns
  have hnl := B.notSynchronized
  have hts := atoms_spec (ws := .codeWith yL_writePass cL_writePass 4 (some .int) [(0, 9, 12, 19)] :: gw) B.pre
  have htg : ∀ w ∈ gw, w.before _ s = true := fun w h => hts w (List.mem_cons_of_mem _ h)
  have hown : s.vm.findClass RL = some m.cls := findClass_of_methodNamed B.named
  have htab := vx_table (x := yL_writePass) B (hts _ List.mem_cons_self)
  have cx : CX SX Γ ad (AXs ad) RL cL_writePass 4 p s m _ c := ⟨hx, hb, hml, hown, htg, hK, hA, hZ, hV⟩
  have hPS : PS SX Γ ad (AXs ad) s σ s.heap [] := ⟨hP, va_S.rf⟩
  have hS : va_S (fun z => AXs ad z ∨ z = o) s.heap s.heap [] := va_S.rf
  have hl := lv_entry ([.ref (ad 0 0), .int p1, .ref o]) (n := 4) (Nat.le_of_ble_eq_true rfl)
  rw [lg_entry_eq]
  generalize (lg_sl ([.ref (ad 0 0), .int p1, .ref o]) ++ List.replicate (4 - (lg_sl ([.ref (ad 0 0), .int p1, .ref o])).length) Slot.unset).toArray = ls at hl ⊢
  have hl : lv_has ls 4 [(0, .ref (ad 0 0)), (1, .int p1), (2, .ref o)] := hl
  refine lv_aload_n hx hb dL_writePass_0 rfl (lv_at hl 2 rfl) ?_
  refine lv_iconst (v := 0) hx hb dL_writePass_1 (by decide) ?_
  refine lv_aload_n hx hb dL_writePass_2 rfl (lv_at hl 0 rfl) ?_
  refine lv_iload_n hx hb dL_writePass_3 rfl (lv_at hl 1 rfl) ?_
  refine vx_calli (vx_runV (As := [.int p1]) (rest := [.int 0, .ref o]) (fixOf cx) (w11_writePass l hst Γ ad (AXs ad) p1 σ q hF) (mwL_143.callB cx ⟨Nat.le_of_ble_eq_true rfl, Nat.le_of_ble_eq_true rfl⟩) ⟨Pre.blind, recvOf cx hPS (dXr (by decide)) rfl rfl, fun U hU hW => ⟨rfl, cx.pre hPS hU hW⟩⟩ rfl rfl hl.1 rfl (lv_room (Nat.le_of_ble_eq_true rfl)) dL_writePass_4 ⟨Nat.le_of_ble_eq_true rfl, Nat.le_of_ble_eq_true rfl⟩) hS (fun q _ h => Or.inl h) (fun q h => Or.inl h) (fun q _ h => Or.inl h) (fun E ce q9 u t H1 locs1 ht hvm hu hb' hz hf' hS hce hcv hcl => ?_) (fun r u t H1 locs1 ht hvm hw hB hz1 hk1 hS => ?_)
  · have ho1 := hf.kept (by rw [hf' o hf.lt ho])
    obtain ⟨hE, hB⟩ := hb'
    rw [ht] at hB
    have hu0 : q.1 ≠ 0 := hu
    refine vx_widen (k := 1) (n := 6) (Nat.le_of_ble_eq_true rfl) (Nat.le_of_ble_eq_true rfl) ?_
    rcases hq with h | h
    · exact absurd h hu0
    · rw [h] at hE
      cases hE
      refine vx_catch hown [] _ _ htab (fun z hz => nomatch hz) (by decide) (by decide) (htg (.classLink RL 19 "java/lang/IndexOutOfBoundsException") (gw_t (tin5 (List.mem_of_getElem? (i := 87) rfl)) rfl)) (va_Nw.use rfl (hV.1 _ (List.mem_filter.mpr ⟨(tin5 (List.mem_of_getElem? (i := 102) rfl)), rfl⟩))) hce hcv hcl ?_
      refine lv_astore_n (lv' := [(3, .ref q9), (0, .ref (ad 0 0)), (1, .int p1), (2, .ref o)]) hx hb dL_writePass_12 rfl hl (by decide) rfl (fun ls hl => ?_)
      refine lv_iconst (v := 1) hx hb dL_writePass_13 (by decide) ?_
      refine vx_ret ?_
      exact W.iret (v := 1) hx hb hr (fun t ht hW => ⟨⟨1, (), rfl, Or.inr ⟨0, by rw [h]; rfl, hu0, rfl⟩, by rw [ht]; exact hB, f, by rw [ht]; exact ho1, fun e => absurd e hu0⟩, hS.F ht⟩) hS.2.2 dL_writePass_14
  · obtain ⟨hq0, rfl⟩ := hw
    rw [ht] at hB
    have ho1 := hf.kept (hk1 o hf.lt ho)
    refine lv_i2l hx hb dL_writePass_7 rfl ?_
    refine W.last hx hb ho1 ((hK.2 5 _ rfl).1 1 (fun j => .long (f j))) (fun q => by cases q) (by show ¬ ((0 : Int32) < 0 ∨ (arrV _ _ _).slots.size ≤ _); rw [arrV_size]; exact (by unfold vp_in; decide : vp_in 0 1)) rfl rfl dL_writePass_8 fun H2 e2 z oq => ?_
    have hno : ∀ g c, dX g c → ad g c ≠ o := fun g c hd e => ho ⟨g, c, hd, e.symm⟩
    have hP2 : PX SX Γ ad q.2.2 H2 := fun g c hd => (hB g c hd).kept (oq _ (hno g c hd))
    have ho2 : va_at Γ.1 vwCl (oC Γ o (vp_updL f 0 q.2.1.toInt64)) H2 := out_put e2
    have hS2 := hS.put (k := (0 : Int32).toNatClampNeg) z oq (Or.inr rfl : (fun z => AXs ad z ∨ z = o) o)
    refine W.eq (g2 := F0 m 9 ls []) rfl ?_
    refine lv_goto (tgt := 15) hx hb dL_writePass_9 (by decide) ?_
    refine lv_iconst (v := 0) hx hb dL_writePass_15 (by decide) ?_
    refine W.widen (k := 1) (n := 6) (Nat.le_of_ble_eq_true rfl) (Nat.le_of_ble_eq_true rfl) ?_
    refine vx_ret ?_
    exact W.iret (v := 0) hx hb hr (fun t ht hW => ⟨⟨0, (), rfl, Or.inl ⟨hq0, rfl⟩, by rw [ht]; exact hP2, _, by rw [ht]; exact ho2, fun _ => by unfold vp_updL; exact if_pos rfl⟩, hS2.F ht⟩) hS2.2.2 dL_writePass_16
