/-! printed: the law's boolean wrappers -/
theorem mwL_75 : MWv RL 75 yX11_isInSeason cX11_isInSeason 2 (some .boolean) 1 := ⟨gw_t (tin6 (List.mem_of_getElem? (i := 92) rfl)) rfl, gw_t (tin6 (List.mem_of_getElem? (i := 93) rfl)) rfl, gw_t (tin6 (List.mem_of_getElem? (i := 94) rfl)) rfl, gw_t (tin1 (List.mem_of_getElem? (i := 1) rfl)) rfl, gw_t (tin6 (List.mem_of_getElem? (i := 95) rfl)) rfl, by decide, by decide, by decide +kernel⟩
set_option maxHeartbeats 4000000 in
set_option maxRecDepth 100000 in
theorem wL_isInSeason (l : Launch) (hst : l.stackTraces = false) (Γ : Wc) (ad : Nat → Nat → Nat) (o : Nat) (p1 : Int32) (σ : Sig) (q : Xe) (hF : f11_isInSeason p1 σ = some q) (hbq : q.1 = 0 → q.2.1 = 0 ∨ q.2.1 = 1) (hq : q.1 = 0 ∨ q.1 = 2) : MWr l Γ ad o yL_isInSeason cL_isInSeason 4 [(0, 16, 19, 19)] 8 132 1 [.ref (ad 0 0), .int p1, .ref o] σ q [2] := by
  refine vx_ofWH (by decide) rfl ?_
  intro p e s m args below meth c s₁ B hml hv
  obtain ⟨rfl, ⟨hP, hK, hA, hZ, hV⟩, ⟨f, hf⟩, ho, hNC⟩ := hv
  have hx := B.exec
  have hb := B.bytes
  have hr := B.returns
  have hnl := B.notSynchronized
  have hts := atoms_spec (ws := .codeWith yL_isInSeason cL_isInSeason 4 (some .int) [(0, 16, 19, 19)] :: gw) B.pre
  have htg : ∀ w ∈ gw, w.before _ s = true := fun w h => hts w (List.mem_cons_of_mem _ h)
  have hown : s.vm.findClass RL = some m.cls := findClass_of_methodNamed B.named
  have htab := vx_table (x := yL_isInSeason) B (hts _ List.mem_cons_self)
  have cx : CX SX Γ ad (AXs ad) RL cL_isInSeason 4 p s m _ c := ⟨hx, hb, hml, hown, htg, hK, hA, hZ, hV⟩
  have hPS : PS SX Γ ad (AXs ad) s σ s.heap [] := ⟨hP, va_S.rf⟩
  have hS : va_S (fun z => AXs ad z ∨ z = o) s.heap s.heap [] := va_S.rf
  have hl := lv_entry ([.ref (ad 0 0), .int p1, .ref o]) (n := 4) (Nat.le_of_ble_eq_true rfl)
  rw [lg_entry_eq]
  generalize (lg_sl ([.ref (ad 0 0), .int p1, .ref o]) ++ List.replicate (4 - (lg_sl ([.ref (ad 0 0), .int p1, .ref o])).length) Slot.unset).toArray = ls at hl ⊢
  have hl : lv_has ls 4 [(0, .ref (ad 0 0)), (1, .int p1), (2, .ref o)] := hl
  refine lv_aload_n hx hb dL_isInSeason_0 rfl (lv_at hl 2 rfl) ?_
  refine lv_iconst (v := 0) hx hb dL_isInSeason_1 (by decide) ?_
  refine lv_aload_n hx hb dL_isInSeason_2 rfl (lv_at hl 0 rfl) ?_
  refine lv_iload_n hx hb dL_isInSeason_3 rfl (lv_at hl 1 rfl) ?_
  refine vx_calli (vx_runV (As := [.int p1]) (rest := [.int 0, .ref o]) (fixOf cx) (w11_isInSeason l hst Γ ad (AXs ad) p1 σ q hF) (mwL_75.callB cx ⟨Nat.le_of_ble_eq_true rfl, Nat.le_of_ble_eq_true rfl⟩) ⟨Pre.blind, recvOf cx hPS (dXr (by decide)) rfl rfl, fun U hU hW => ⟨rfl, cx.pre hPS hU hW⟩⟩ rfl rfl hl.1 rfl (lv_room (Nat.le_of_ble_eq_true rfl)) dL_isInSeason_4 ⟨Nat.le_of_ble_eq_true rfl, Nat.le_of_ble_eq_true rfl⟩) hS (fun q _ h => Or.inl h) (fun q h => Or.inl h) (fun q _ h => Or.inl h) (fun E ce q9 u t H1 locs1 ht hvm hu hb' hz hf' hS hce hcv hcl => ?_) (fun r u t H1 locs1 ht hvm hw hB hz1 hk1 hS => ?_)
  · have ho1 := hf.kept (by rw [hf' o hf.lt ho])
    obtain ⟨hE, hB⟩ := hb'
    rw [ht] at hB
    have hu0 : q.1 ≠ 0 := hu
    refine vx_widen (k := 1) (n := 6) (Nat.le_of_ble_eq_true rfl) (Nat.le_of_ble_eq_true rfl) ?_
    rcases hq with h | h
    · exact absurd h hu0
    · rw [h] at hE
      cases hE
      refine vx_catch hown [] _ _ htab (fun z hz => nomatch hz) (by decide) (by decide) (htg (.classLink RL 19 "java/lang/IndexOutOfBoundsException") (gw_t (tin5 (List.mem_of_getElem? (i := 87) rfl)) rfl)) (va_Nw.use rfl (hV.1 _ (List.mem_filter.mpr ⟨(tin5 (List.mem_of_getElem? (i := 102) rfl)), rfl⟩))) hce hcv hcl ?_
      refine lv_astore_n (lv' := [(3, .ref q9), (0, .ref (ad 0 0)), (1, .int p1), (2, .ref o)]) hx hb dL_isInSeason_19 rfl hl (by decide) rfl (fun ls hl => ?_)
      refine lv_iconst (v := 1) hx hb dL_isInSeason_20 (by decide) ?_
      refine vx_ret ?_
      exact W.iret (v := 1) hx hb hr (fun t ht hW => ⟨⟨1, (), rfl, Or.inr ⟨0, by rw [h]; rfl, hu0, rfl⟩, by rw [ht]; exact hB, f, by rw [ht]; exact ho1, fun e => absurd e hu0⟩, hS.F ht⟩) hS.2.2 dL_isInSeason_21
  · obtain ⟨hq0, rfl⟩ := hw
    rw [ht] at hB
    have ho1 := hf.kept (hk1 o hf.lt ho)
    refine lv_if_eq (tgt := 14) hx hb dL_isInSeason_7 (by decide) (fun c9 => ?_) (fun c9 => ?_)
    · refine lv_lconst (v := 0) hx hb dL_isInSeason_14 rfl ?_
      refine W.eq (g2 := F0 m 15 ls (.long 0 :: .int 0 :: [.ref o])) rfl ?_
      refine W.last hx hb ho1 ((hK.2 5 _ rfl).1 1 (fun j => .long (f j))) (fun q => by cases q) (by show ¬ ((0 : Int32) < 0 ∨ (arrV _ _ _).slots.size ≤ _); rw [arrV_size]; exact (by unfold vp_in; decide : vp_in 0 1)) rfl rfl dL_isInSeason_15 fun H2 e2 z oq => ?_
      have hno : ∀ g c, dX g c → ad g c ≠ o := fun g c hd e => ho ⟨g, c, hd, e.symm⟩
      have hP2 : PX SX Γ ad q.2.2 H2 := fun g c hd => (hB g c hd).kept (oq _ (hno g c hd))
      have ho2 : va_at Γ.1 vwCl (oC Γ o (vp_updL f 0 0)) H2 := out_put e2
      have hS2 := hS.put (k := (0 : Int32).toNatClampNeg) z oq (Or.inr rfl : (fun z => AXs ad z ∨ z = o) o)
      refine W.eq (g2 := F0 m 16 ls []) rfl ?_
      refine lv_goto (tgt := 22) hx hb dL_isInSeason_16 (by decide) ?_
      refine lv_iconst (v := 0) hx hb dL_isInSeason_22 (by decide) ?_
      refine W.widen (k := 1) (n := 6) (Nat.le_of_ble_eq_true rfl) (Nat.le_of_ble_eq_true rfl) ?_
      refine vx_ret ?_
      exact W.iret (v := 0) hx hb hr (fun t ht hW => ⟨⟨0, (), rfl, Or.inl ⟨hq0, rfl⟩, by rw [ht]; exact hP2, _, by rw [ht]; exact ho2, fun _ => by unfold vp_updL; exact (if_pos rfl).trans (by rw [c9]; rfl)⟩, hS2.F ht⟩) hS2.2.2 dL_isInSeason_23
    · refine lv_lconst (v := 1) hx hb dL_isInSeason_10 rfl ?_
      refine lv_goto (tgt := 15) hx hb dL_isInSeason_11 (by decide) ?_
      refine W.last hx hb ho1 ((hK.2 5 _ rfl).1 1 (fun j => .long (f j))) (fun q => by cases q) (by show ¬ ((0 : Int32) < 0 ∨ (arrV _ _ _).slots.size ≤ _); rw [arrV_size]; exact (by unfold vp_in; decide : vp_in 0 1)) rfl rfl dL_isInSeason_15 fun H2 e2 z oq => ?_
      have hno : ∀ g c, dX g c → ad g c ≠ o := fun g c hd e => ho ⟨g, c, hd, e.symm⟩
      have hP2 : PX SX Γ ad q.2.2 H2 := fun g c hd => (hB g c hd).kept (oq _ (hno g c hd))
      have ho2 : va_at Γ.1 vwCl (oC Γ o (vp_updL f 0 1)) H2 := out_put e2
      have hS2 := hS.put (k := (0 : Int32).toNatClampNeg) z oq (Or.inr rfl : (fun z => AXs ad z ∨ z = o) o)
      refine W.eq (g2 := F0 m 16 ls []) rfl ?_
      refine lv_goto (tgt := 22) hx hb dL_isInSeason_16 (by decide) ?_
      refine lv_iconst (v := 0) hx hb dL_isInSeason_22 (by decide) ?_
      refine W.widen (k := 1) (n := 6) (Nat.le_of_ble_eq_true rfl) (Nat.le_of_ble_eq_true rfl) ?_
      refine vx_ret ?_
      exact W.iret (v := 0) hx hb hr (fun t ht hW => ⟨⟨0, (), rfl, Or.inl ⟨hq0, rfl⟩, by rw [ht]; exact hP2, _, by rw [ht]; exact ho2, fun _ => by unfold vp_updL; exact (if_pos rfl).trans ((hbq hq0).elim (fun z9 => absurd z9 c9) (fun z9 => by rw [z9]; rfl))⟩, hS2.F ht⟩) hS2.2.2 dL_isInSeason_23
theorem mwL_103 : MWv RL 103 yX11_isReturned cX11_isReturned 2 (some .boolean) 1 := ⟨gw_t (tin6 (List.mem_of_getElem? (i := 158) rfl)) rfl, gw_t (tin6 (List.mem_of_getElem? (i := 159) rfl)) rfl, gw_t (tin6 (List.mem_of_getElem? (i := 160) rfl)) rfl, gw_t (tin1 (List.mem_of_getElem? (i := 1) rfl)) rfl, gw_t (tin6 (List.mem_of_getElem? (i := 161) rfl)) rfl, by decide, by decide, by decide +kernel⟩
set_option maxHeartbeats 4000000 in
set_option maxRecDepth 100000 in
theorem wL_isReturned (l : Launch) (hst : l.stackTraces = false) (Γ : Wc) (ad : Nat → Nat → Nat) (o : Nat) (p1 : Int32) (σ : Sig) (q : Xe) (hF : f11_isReturned p1 σ = some q) (hbq : q.1 = 0 → q.2.1 = 0 ∨ q.2.1 = 1) (hq : q.1 = 0 ∨ q.1 = 2) : MWr l Γ ad o yL_isReturned cL_isReturned 4 [(0, 16, 19, 19)] 8 132 1 [.ref (ad 0 0), .int p1, .ref o] σ q [2] := by
  refine vx_ofWH (by decide) rfl ?_
  intro p e s m args below meth c s₁ B hml hv
  obtain ⟨rfl, ⟨hP, hK, hA, hZ, hV⟩, ⟨f, hf⟩, ho, hNC⟩ := hv
  have hx := B.exec
  have hb := B.bytes
  have hr := B.returns
  have hnl := B.notSynchronized
  have hts := atoms_spec (ws := .codeWith yL_isReturned cL_isReturned 4 (some .int) [(0, 16, 19, 19)] :: gw) B.pre
  have htg : ∀ w ∈ gw, w.before _ s = true := fun w h => hts w (List.mem_cons_of_mem _ h)
  have hown : s.vm.findClass RL = some m.cls := findClass_of_methodNamed B.named
  have htab := vx_table (x := yL_isReturned) B (hts _ List.mem_cons_self)
  have cx : CX SX Γ ad (AXs ad) RL cL_isReturned 4 p s m _ c := ⟨hx, hb, hml, hown, htg, hK, hA, hZ, hV⟩
  have hPS : PS SX Γ ad (AXs ad) s σ s.heap [] := ⟨hP, va_S.rf⟩
  have hS : va_S (fun z => AXs ad z ∨ z = o) s.heap s.heap [] := va_S.rf
  have hl := lv_entry ([.ref (ad 0 0), .int p1, .ref o]) (n := 4) (Nat.le_of_ble_eq_true rfl)
  rw [lg_entry_eq]
  generalize (lg_sl ([.ref (ad 0 0), .int p1, .ref o]) ++ List.replicate (4 - (lg_sl ([.ref (ad 0 0), .int p1, .ref o])).length) Slot.unset).toArray = ls at hl ⊢
  have hl : lv_has ls 4 [(0, .ref (ad 0 0)), (1, .int p1), (2, .ref o)] := hl
  refine lv_aload_n hx hb dL_isReturned_0 rfl (lv_at hl 2 rfl) ?_
  refine lv_iconst (v := 0) hx hb dL_isReturned_1 (by decide) ?_
  refine lv_aload_n hx hb dL_isReturned_2 rfl (lv_at hl 0 rfl) ?_
  refine lv_iload_n hx hb dL_isReturned_3 rfl (lv_at hl 1 rfl) ?_
  refine vx_calli (vx_runV (As := [.int p1]) (rest := [.int 0, .ref o]) (fixOf cx) (w11_isReturned l hst Γ ad (AXs ad) p1 σ q hF) (mwL_103.callB cx ⟨Nat.le_of_ble_eq_true rfl, Nat.le_of_ble_eq_true rfl⟩) ⟨Pre.blind, recvOf cx hPS (dXr (by decide)) rfl rfl, fun U hU hW => ⟨rfl, cx.pre hPS hU hW⟩⟩ rfl rfl hl.1 rfl (lv_room (Nat.le_of_ble_eq_true rfl)) dL_isReturned_4 ⟨Nat.le_of_ble_eq_true rfl, Nat.le_of_ble_eq_true rfl⟩) hS (fun q _ h => Or.inl h) (fun q h => Or.inl h) (fun q _ h => Or.inl h) (fun E ce q9 u t H1 locs1 ht hvm hu hb' hz hf' hS hce hcv hcl => ?_) (fun r u t H1 locs1 ht hvm hw hB hz1 hk1 hS => ?_)
  · have ho1 := hf.kept (by rw [hf' o hf.lt ho])
    obtain ⟨hE, hB⟩ := hb'
    rw [ht] at hB
    have hu0 : q.1 ≠ 0 := hu
    refine vx_widen (k := 1) (n := 6) (Nat.le_of_ble_eq_true rfl) (Nat.le_of_ble_eq_true rfl) ?_
    rcases hq with h | h
    · exact absurd h hu0
    · rw [h] at hE
      cases hE
      refine vx_catch hown [] _ _ htab (fun z hz => nomatch hz) (by decide) (by decide) (htg (.classLink RL 19 "java/lang/IndexOutOfBoundsException") (gw_t (tin5 (List.mem_of_getElem? (i := 87) rfl)) rfl)) (va_Nw.use rfl (hV.1 _ (List.mem_filter.mpr ⟨(tin5 (List.mem_of_getElem? (i := 102) rfl)), rfl⟩))) hce hcv hcl ?_
      refine lv_astore_n (lv' := [(3, .ref q9), (0, .ref (ad 0 0)), (1, .int p1), (2, .ref o)]) hx hb dL_isReturned_19 rfl hl (by decide) rfl (fun ls hl => ?_)
      refine lv_iconst (v := 1) hx hb dL_isReturned_20 (by decide) ?_
      refine vx_ret ?_
      exact W.iret (v := 1) hx hb hr (fun t ht hW => ⟨⟨1, (), rfl, Or.inr ⟨0, by rw [h]; rfl, hu0, rfl⟩, by rw [ht]; exact hB, f, by rw [ht]; exact ho1, fun e => absurd e hu0⟩, hS.F ht⟩) hS.2.2 dL_isReturned_21
  · obtain ⟨hq0, rfl⟩ := hw
    rw [ht] at hB
    have ho1 := hf.kept (hk1 o hf.lt ho)
    refine lv_if_eq (tgt := 14) hx hb dL_isReturned_7 (by decide) (fun c9 => ?_) (fun c9 => ?_)
    · refine lv_lconst (v := 0) hx hb dL_isReturned_14 rfl ?_
      refine W.eq (g2 := F0 m 15 ls (.long 0 :: .int 0 :: [.ref o])) rfl ?_
      refine W.last hx hb ho1 ((hK.2 5 _ rfl).1 1 (fun j => .long (f j))) (fun q => by cases q) (by show ¬ ((0 : Int32) < 0 ∨ (arrV _ _ _).slots.size ≤ _); rw [arrV_size]; exact (by unfold vp_in; decide : vp_in 0 1)) rfl rfl dL_isReturned_15 fun H2 e2 z oq => ?_
      have hno : ∀ g c, dX g c → ad g c ≠ o := fun g c hd e => ho ⟨g, c, hd, e.symm⟩
      have hP2 : PX SX Γ ad q.2.2 H2 := fun g c hd => (hB g c hd).kept (oq _ (hno g c hd))
      have ho2 : va_at Γ.1 vwCl (oC Γ o (vp_updL f 0 0)) H2 := out_put e2
      have hS2 := hS.put (k := (0 : Int32).toNatClampNeg) z oq (Or.inr rfl : (fun z => AXs ad z ∨ z = o) o)
      refine W.eq (g2 := F0 m 16 ls []) rfl ?_
      refine lv_goto (tgt := 22) hx hb dL_isReturned_16 (by decide) ?_
      refine lv_iconst (v := 0) hx hb dL_isReturned_22 (by decide) ?_
      refine W.widen (k := 1) (n := 6) (Nat.le_of_ble_eq_true rfl) (Nat.le_of_ble_eq_true rfl) ?_
      refine vx_ret ?_
      exact W.iret (v := 0) hx hb hr (fun t ht hW => ⟨⟨0, (), rfl, Or.inl ⟨hq0, rfl⟩, by rw [ht]; exact hP2, _, by rw [ht]; exact ho2, fun _ => by unfold vp_updL; exact (if_pos rfl).trans (by rw [c9]; rfl)⟩, hS2.F ht⟩) hS2.2.2 dL_isReturned_23
    · refine lv_lconst (v := 1) hx hb dL_isReturned_10 rfl ?_
      refine lv_goto (tgt := 15) hx hb dL_isReturned_11 (by decide) ?_
      refine W.last hx hb ho1 ((hK.2 5 _ rfl).1 1 (fun j => .long (f j))) (fun q => by cases q) (by show ¬ ((0 : Int32) < 0 ∨ (arrV _ _ _).slots.size ≤ _); rw [arrV_size]; exact (by unfold vp_in; decide : vp_in 0 1)) rfl rfl dL_isReturned_15 fun H2 e2 z oq => ?_
      have hno : ∀ g c, dX g c → ad g c ≠ o := fun g c hd e => ho ⟨g, c, hd, e.symm⟩
      have hP2 : PX SX Γ ad q.2.2 H2 := fun g c hd => (hB g c hd).kept (oq _ (hno g c hd))
      have ho2 : va_at Γ.1 vwCl (oC Γ o (vp_updL f 0 1)) H2 := out_put e2
      have hS2 := hS.put (k := (0 : Int32).toNatClampNeg) z oq (Or.inr rfl : (fun z => AXs ad z ∨ z = o) o)
      refine W.eq (g2 := F0 m 16 ls []) rfl ?_
      refine lv_goto (tgt := 22) hx hb dL_isReturned_16 (by decide) ?_
      refine lv_iconst (v := 0) hx hb dL_isReturned_22 (by decide) ?_
      refine W.widen (k := 1) (n := 6) (Nat.le_of_ble_eq_true rfl) (Nat.le_of_ble_eq_true rfl) ?_
      refine vx_ret ?_
      exact W.iret (v := 0) hx hb hr (fun t ht hW => ⟨⟨0, (), rfl, Or.inl ⟨hq0, rfl⟩, by rw [ht]; exact hP2, _, by rw [ht]; exact ho2, fun _ => by unfold vp_updL; exact (if_pos rfl).trans ((hbq hq0).elim (fun z9 => absurd z9 c9) (fun z9 => by rw [z9]; rfl))⟩, hS2.F ht⟩) hS2.2.2 dL_isReturned_23
theorem mwL_124 : MWv RL 124 yX11_isBlocked cX11_isBlocked 2 (some .boolean) 1 := ⟨gw_t (tin6 (List.mem_of_getElem? (i := 210) rfl)) rfl, gw_t (tin6 (List.mem_of_getElem? (i := 211) rfl)) rfl, gw_t (tin6 (List.mem_of_getElem? (i := 212) rfl)) rfl, gw_t (tin1 (List.mem_of_getElem? (i := 1) rfl)) rfl, gw_t (tin6 (List.mem_of_getElem? (i := 213) rfl)) rfl, by decide, by decide, by decide +kernel⟩
set_option maxHeartbeats 4000000 in
set_option maxRecDepth 100000 in
theorem wL_isBlocked (l : Launch) (hst : l.stackTraces = false) (Γ : Wc) (ad : Nat → Nat → Nat) (o : Nat) (p1 : Int32) (σ : Sig) (q : Xe) (hF : f11_isBlocked p1 σ = some q) (hbq : q.1 = 0 → q.2.1 = 0 ∨ q.2.1 = 1) (hq : q.1 = 0 ∨ q.1 = 2) : MWr l Γ ad o yL_isBlocked cL_isBlocked 4 [(0, 16, 19, 19)] 8 132 1 [.ref (ad 0 0), .int p1, .ref o] σ q [2] := by
  refine vx_ofWH (by decide) rfl ?_
  intro p e s m args below meth c s₁ B hml hv
  obtain ⟨rfl, ⟨hP, hK, hA, hZ, hV⟩, ⟨f, hf⟩, ho, hNC⟩ := hv
  have hx := B.exec
  have hb := B.bytes
  have hr := B.returns
  have hnl := B.notSynchronized
  have hts := atoms_spec (ws := .codeWith yL_isBlocked cL_isBlocked 4 (some .int) [(0, 16, 19, 19)] :: gw) B.pre
  have htg : ∀ w ∈ gw, w.before _ s = true := fun w h => hts w (List.mem_cons_of_mem _ h)
  have hown : s.vm.findClass RL = some m.cls := findClass_of_methodNamed B.named
  have htab := vx_table (x := yL_isBlocked) B (hts _ List.mem_cons_self)
  have cx : CX SX Γ ad (AXs ad) RL cL_isBlocked 4 p s m _ c := ⟨hx, hb, hml, hown, htg, hK, hA, hZ, hV⟩
  have hPS : PS SX Γ ad (AXs ad) s σ s.heap [] := ⟨hP, va_S.rf⟩
  have hS : va_S (fun z => AXs ad z ∨ z = o) s.heap s.heap [] := va_S.rf
  have hl := lv_entry ([.ref (ad 0 0), .int p1, .ref o]) (n := 4) (Nat.le_of_ble_eq_true rfl)
  rw [lg_entry_eq]
  generalize (lg_sl ([.ref (ad 0 0), .int p1, .ref o]) ++ List.replicate (4 - (lg_sl ([.ref (ad 0 0), .int p1, .ref o])).length) Slot.unset).toArray = ls at hl ⊢
  have hl : lv_has ls 4 [(0, .ref (ad 0 0)), (1, .int p1), (2, .ref o)] := hl
  refine lv_aload_n hx hb dL_isBlocked_0 rfl (lv_at hl 2 rfl) ?_
  refine lv_iconst (v := 0) hx hb dL_isBlocked_1 (by decide) ?_
  refine lv_aload_n hx hb dL_isBlocked_2 rfl (lv_at hl 0 rfl) ?_
  refine lv_iload_n hx hb dL_isBlocked_3 rfl (lv_at hl 1 rfl) ?_
  refine vx_calli (vx_runV (As := [.int p1]) (rest := [.int 0, .ref o]) (fixOf cx) (w11_isBlocked l hst Γ ad (AXs ad) p1 σ q hF) (mwL_124.callB cx ⟨Nat.le_of_ble_eq_true rfl, Nat.le_of_ble_eq_true rfl⟩) ⟨Pre.blind, recvOf cx hPS (dXr (by decide)) rfl rfl, fun U hU hW => ⟨rfl, cx.pre hPS hU hW⟩⟩ rfl rfl hl.1 rfl (lv_room (Nat.le_of_ble_eq_true rfl)) dL_isBlocked_4 ⟨Nat.le_of_ble_eq_true rfl, Nat.le_of_ble_eq_true rfl⟩) hS (fun q _ h => Or.inl h) (fun q h => Or.inl h) (fun q _ h => Or.inl h) (fun E ce q9 u t H1 locs1 ht hvm hu hb' hz hf' hS hce hcv hcl => ?_) (fun r u t H1 locs1 ht hvm hw hB hz1 hk1 hS => ?_)
  · have ho1 := hf.kept (by rw [hf' o hf.lt ho])
    obtain ⟨hE, hB⟩ := hb'
    rw [ht] at hB
    have hu0 : q.1 ≠ 0 := hu
    refine vx_widen (k := 1) (n := 6) (Nat.le_of_ble_eq_true rfl) (Nat.le_of_ble_eq_true rfl) ?_
    rcases hq with h | h
    · exact absurd h hu0
    · rw [h] at hE
      cases hE
      refine vx_catch hown [] _ _ htab (fun z hz => nomatch hz) (by decide) (by decide) (htg (.classLink RL 19 "java/lang/IndexOutOfBoundsException") (gw_t (tin5 (List.mem_of_getElem? (i := 87) rfl)) rfl)) (va_Nw.use rfl (hV.1 _ (List.mem_filter.mpr ⟨(tin5 (List.mem_of_getElem? (i := 102) rfl)), rfl⟩))) hce hcv hcl ?_
      refine lv_astore_n (lv' := [(3, .ref q9), (0, .ref (ad 0 0)), (1, .int p1), (2, .ref o)]) hx hb dL_isBlocked_19 rfl hl (by decide) rfl (fun ls hl => ?_)
      refine lv_iconst (v := 1) hx hb dL_isBlocked_20 (by decide) ?_
      refine vx_ret ?_
      exact W.iret (v := 1) hx hb hr (fun t ht hW => ⟨⟨1, (), rfl, Or.inr ⟨0, by rw [h]; rfl, hu0, rfl⟩, by rw [ht]; exact hB, f, by rw [ht]; exact ho1, fun e => absurd e hu0⟩, hS.F ht⟩) hS.2.2 dL_isBlocked_21
  · obtain ⟨hq0, rfl⟩ := hw
    rw [ht] at hB
    have ho1 := hf.kept (hk1 o hf.lt ho)
    refine lv_if_eq (tgt := 14) hx hb dL_isBlocked_7 (by decide) (fun c9 => ?_) (fun c9 => ?_)
    · refine lv_lconst (v := 0) hx hb dL_isBlocked_14 rfl ?_
      refine W.eq (g2 := F0 m 15 ls (.long 0 :: .int 0 :: [.ref o])) rfl ?_
      refine W.last hx hb ho1 ((hK.2 5 _ rfl).1 1 (fun j => .long (f j))) (fun q => by cases q) (by show ¬ ((0 : Int32) < 0 ∨ (arrV _ _ _).slots.size ≤ _); rw [arrV_size]; exact (by unfold vp_in; decide : vp_in 0 1)) rfl rfl dL_isBlocked_15 fun H2 e2 z oq => ?_
      have hno : ∀ g c, dX g c → ad g c ≠ o := fun g c hd e => ho ⟨g, c, hd, e.symm⟩
      have hP2 : PX SX Γ ad q.2.2 H2 := fun g c hd => (hB g c hd).kept (oq _ (hno g c hd))
      have ho2 : va_at Γ.1 vwCl (oC Γ o (vp_updL f 0 0)) H2 := out_put e2
      have hS2 := hS.put (k := (0 : Int32).toNatClampNeg) z oq (Or.inr rfl : (fun z => AXs ad z ∨ z = o) o)
      refine W.eq (g2 := F0 m 16 ls []) rfl ?_
      refine lv_goto (tgt := 22) hx hb dL_isBlocked_16 (by decide) ?_
      refine lv_iconst (v := 0) hx hb dL_isBlocked_22 (by decide) ?_
      refine W.widen (k := 1) (n := 6) (Nat.le_of_ble_eq_true rfl) (Nat.le_of_ble_eq_true rfl) ?_
      refine vx_ret ?_
      exact W.iret (v := 0) hx hb hr (fun t ht hW => ⟨⟨0, (), rfl, Or.inl ⟨hq0, rfl⟩, by rw [ht]; exact hP2, _, by rw [ht]; exact ho2, fun _ => by unfold vp_updL; exact (if_pos rfl).trans (by rw [c9]; rfl)⟩, hS2.F ht⟩) hS2.2.2 dL_isBlocked_23
    · refine lv_lconst (v := 1) hx hb dL_isBlocked_10 rfl ?_
      refine lv_goto (tgt := 15) hx hb dL_isBlocked_11 (by decide) ?_
      refine W.last hx hb ho1 ((hK.2 5 _ rfl).1 1 (fun j => .long (f j))) (fun q => by cases q) (by show ¬ ((0 : Int32) < 0 ∨ (arrV _ _ _).slots.size ≤ _); rw [arrV_size]; exact (by unfold vp_in; decide : vp_in 0 1)) rfl rfl dL_isBlocked_15 fun H2 e2 z oq => ?_
      have hno : ∀ g c, dX g c → ad g c ≠ o := fun g c hd e => ho ⟨g, c, hd, e.symm⟩
      have hP2 : PX SX Γ ad q.2.2 H2 := fun g c hd => (hB g c hd).kept (oq _ (hno g c hd))
      have ho2 : va_at Γ.1 vwCl (oC Γ o (vp_updL f 0 1)) H2 := out_put e2
      have hS2 := hS.put (k := (0 : Int32).toNatClampNeg) z oq (Or.inr rfl : (fun z => AXs ad z ∨ z = o) o)
      refine W.eq (g2 := F0 m 16 ls []) rfl ?_
      refine lv_goto (tgt := 22) hx hb dL_isBlocked_16 (by decide) ?_
      refine lv_iconst (v := 0) hx hb dL_isBlocked_22 (by decide) ?_
      refine W.widen (k := 1) (n := 6) (Nat.le_of_ble_eq_true rfl) (Nat.le_of_ble_eq_true rfl) ?_
      refine vx_ret ?_
      exact W.iret (v := 0) hx hb hr (fun t ht hW => ⟨⟨0, (), rfl, Or.inl ⟨hq0, rfl⟩, by rw [ht]; exact hP2, _, by rw [ht]; exact ho2, fun _ => by unfold vp_updL; exact (if_pos rfl).trans ((hbq hq0).elim (fun z9 => absurd z9 c9) (fun z9 => by rw [z9]; rfl))⟩, hS2.F ht⟩) hS2.2.2 dL_isBlocked_23
