/-! printed: the law's wrappers, where something may be thrown -/
def AXs (ad : Nat → Nat → Nat) : Nat → Prop := fun z => ∃ g c, dX g c ∧ z = ad g c
/-- no exception of the class's is another's kind -/
def NC (U : State) : Prop := ∀ i, 1 ≤ i → i ≤ 3 → ∀ j, 1 ≤ j → j ≤ 3 → ¬ i = j → va_Nc (exN i) (exN j) U
theorem NC.moved {u U : State} (hvm : u.vm.Alike U.vm) (h : NC u) : NC U := fun i h1 h2 j h3 h4 h5 => (h i h1 h2 j h3 h4 h5).moved hvm
def MWx (l : Launch) (Γ : Wc) (ad : Nat → Nat → Nat) (A : Nat → Prop) (y : MethodName) (cc : ByteArray) (nL : Nat) (hh : List (Nat × Nat × Nat × Nat)) (fr lo k : Nat) (av : List Value) (σ σ' : Sig) : Prop :=
  Met l y (.codeWith y cc nL (some .int) hh :: gw) (rmx fr lo k) (va_Pc av (fun U => Pre SX Γ ad A σ U ∧ NC U)) (va_Qi (fun _ (_ : Unit) => True) (fun _ t => PX SX Γ ad σ' t.heap) A) k (6 * k) A
theorem MWx.blind {Γ : Wc} {ad : Nat → Nat → Nat} {A : Nat → Prop} {σ : Sig} {av : List Value} : FrameBlind (va_Pc av (fun U => Pre SX Γ ad A σ U ∧ NC U)) := fun a U g mk q => ⟨q.1, ⟨q.2.1.1, va_K.moved (u := U) (U := U.calling g mk a) (Vm.Alike.refl U.vm) q.2.1.2.1, q.2.1.2.2.1, ZH.moved (u := U) (U := U.calling g mk a) (Vm.Alike.refl U.vm) q.2.1.2.2.2.1, ZV.same (u := U) (U := U.calling g mk a) rfl q.2.1.2.2.2.2⟩, NC.moved (u := U) (U := U.calling g mk a) (Vm.Alike.refl U.vm) q.2.2⟩
section FRW
variable {p : Program} {l : Launch} {e : Env} {R : Room} {s : State} {m : MethodId} {args : Array Value} {below : List Frame} {meth : Method} {c : Code} {H : Heap} {locs : List Loc} {cells slots : Nat} {Q : State → Prop}
variable {cc : ByteArray} {pc nL : Nat} {ls : Array Slot} {rest st : List Value} {Γ : Wc} {ad : Nat → Nat → Nat} {A : Nat → Prop} {σ σ' : Sig} {own : String}
theorem r_callX (cx : CX SX Γ ad A own cc nL p s m args c) (hP : PS SX Γ ad A s σ H locs) (hN : NC s) {fr lo k maxL index : Nat} {y : MethodName} {bytes : ByteArray} {hh : List (Nat × Nat × Nat × Nat)} {As : List Value} (hM : MWx l Γ ad A y bytes maxL hh fr lo k As σ σ') (hw : MWz own index y bytes maxL (some .int) hh As.length) (hR : fr + 1 ≤ R.frames ∧ 8 + (maxL + 11) + lo ≤ R.locals) (hst : st = As.reverse ++ rest) (hrs : (rest.map fun v => v.category).sum ≤ 8) (hsz : ls.size = nL) (hcs : cells + k ≤ R.cells ∧ slots + 6 * k ≤ R.slots) (d : decode cc pc = .ok (.invokestatic index, 3))
    (kk : ∀ (r : Int32) (H1 : Heap) (locs1 : List Loc), PS SX Γ ad A s σ' H1 locs1 → W p l e R s m args below meth c H1 locs1 (cells + k) (slots + 6 * k) Q (F0 m (pc + 3) ls (.int r :: rest))) : W p l e R s m args below meth c H locs cells slots Q (F0 m pc ls st) :=
  va_calli (vx_runSW (As := As) (rest := rest) (fixOf cx) hM (hw.callB cx hR) ⟨MWx.blind, fun U hU hW => ⟨rfl, cx.pre hP hU hW, hN.moved hW.alike⟩⟩ rfl rfl hsz hst (lv_room hrs) d hcs) hP.2 (fun q _ h => h) (fun q h => h) (fun r u t H1 locs1 ht hvm hw hB hz1 hk1 hS => kk r H1 locs1 ⟨by rw [← ht]; exact hB, hS⟩)
end FRW
theorem mw13_44 : MWv RL 44 yX11_sell cX11_sell 5 (some .int) 4 := ⟨gw_t (tin5 (List.mem_of_getElem? (i := 82) rfl)) rfl, gw_t (tin5 (List.mem_of_getElem? (i := 83) rfl)) rfl, gw_t (tin5 (List.mem_of_getElem? (i := 84) rfl)) rfl, gw_t (tin1 (List.mem_of_getElem? (i := 1) rfl)) rfl, gw_t (tin5 (List.mem_of_getElem? (i := 85) rfl)) rfl, by decide, by decide, by decide +kernel⟩
theorem mz13_203 : MWz RL 203 yL_sell cL_sell 6 (some .int) [(0, 9, 10, 26), (0, 9, 16, 36)] 5 := ⟨gw_t (tin5 (List.mem_of_getElem? (i := 77) rfl)) rfl, gw_t (tin5 (List.mem_of_getElem? (i := 78) rfl)) rfl, gw_t (tin1 (List.mem_of_getElem? (i := 0) rfl)) rfl, gw_t (tin5 (List.mem_of_getElem? (i := 79) rfl)) rfl, by decide, by decide, by decide +kernel⟩
set_option maxHeartbeats 4000000 in
set_option maxRecDepth 100000 in
theorem wx_sell (l : Launch) (hst : l.stackTraces = false) (Γ : Wc) (ad : Nat → Nat → Nat) (A : Nat → Prop) (p1 p2 p3 p4 : Int32) (σ : Sig) (q : Xe) (hF : f11_sell p1 p2 p3 p4 σ = some q) (hq : q.1 = 0 ∨ q.1 = 1 ∨ q.1 = 3) : MWx l Γ ad A yL_sell cL_sell 6 [(0, 9, 10, 26), (0, 9, 16, 36)] 9 157 5 [.ref (ad 0 0), .int p1, .int p2, .int p3, .int p4] σ q.2.2 := by
  refine va_MetW (cc := cL_sell) (maxL := 6) (ret := some .int) (hh := [(0, 9, 10, 26), (0, 9, 16, 36)]) (by decide) rfl ?_
  intro p e s m args below meth c s₁ B hml hv
  obtain ⟨rfl, ⟨hP, hK, hA, hZ, hV⟩, hNC⟩ := hv
  have hx := B.exec
  have hb := B.bytes
  have hr := B.returns
  have hnl := B.notSynchronized
  have hts := atoms_spec (ws := .codeWith yL_sell cL_sell 6 (some .int) [(0, 9, 10, 26), (0, 9, 16, 36)] :: gw) B.pre
  have htg : ∀ w ∈ gw, w.before _ s = true := fun w h => hts w (List.mem_cons_of_mem _ h)
  have hown : s.vm.findClass RL = some m.cls := findClass_of_methodNamed B.named
  have htab := vx_table (x := yL_sell) B (hts _ List.mem_cons_self)
  have cx : CX SX Γ ad A RL cL_sell 6 p s m _ c := ⟨hx, hb, hml, hown, htg, hK, hA, hZ, hV⟩
  have hPS : PS SX Γ ad A s σ s.heap [] := ⟨hP, va_S.rf⟩
  have hS : va_S A s.heap s.heap [] := va_S.rf
  have hl := lv_entry ([.ref (ad 0 0), .int p1, .int p2, .int p3, .int p4]) (n := 6) (Nat.le_of_ble_eq_true rfl)
  rw [lg_entry_eq]
  generalize (lg_sl ([.ref (ad 0 0), .int p1, .int p2, .int p3, .int p4]) ++ List.replicate (6 - (lg_sl ([.ref (ad 0 0), .int p1, .int p2, .int p3, .int p4])).length) Slot.unset).toArray = ls at hl ⊢
  have hl : lv_has ls 6 [(0, .ref (ad 0 0)), (1, .int p1), (2, .int p2), (3, .int p3), (4, .int p4)] := hl
  refine lv_aload_n hx hb dL_sell_0 rfl (lv_at hl 0 rfl) ?_
  refine lv_iload_n hx hb dL_sell_1 rfl (lv_at hl 1 rfl) ?_
  refine lv_iload_n hx hb dL_sell_2 rfl (lv_at hl 2 rfl) ?_
  refine lv_iload_n hx hb dL_sell_3 rfl (lv_at hl 3 rfl) ?_
  refine lv_iload hx hb dL_sell_4 (lv_at hl 4 rfl) ?_
  refine vx_calli (vx_runV (As := [.int p1, .int p2, .int p3, .int p4]) (rest := []) (fixOf cx) (w11_sell l hst Γ ad A p1 p2 p3 p4 σ q hF) (mw13_44.callB cx ⟨Nat.le_of_ble_eq_true rfl, Nat.le_of_ble_eq_true rfl⟩) ⟨Pre.blind, recvOf cx hPS (dXr (by decide)) rfl rfl, fun U hU hW => ⟨rfl, cx.pre hPS hU hW⟩⟩ rfl rfl hl.1 rfl (lv_room (Nat.le_of_ble_eq_true rfl)) dL_sell_6 ⟨Nat.le_of_ble_eq_true rfl, Nat.le_of_ble_eq_true rfl⟩) hS (fun q _ h => h) (fun q h => h) (fun q _ h => h) (fun E ce q9 u t H1 locs1 ht hvm hu hb' hz hf' hS hce hcv hcl => ?_) (fun r u t H1 locs1 ht hvm hw hB hz1 hk1 hS => ?_)
  · obtain ⟨hE, hB⟩ := hb'
    rw [ht] at hB
    have hu0 : q.1 ≠ 0 := hu
    refine vx_widen (k := 5) (n := 30) (Nat.le_of_ble_eq_true rfl) (Nat.le_of_ble_eq_true rfl) ?_
    rcases hq with h | h | h
    · exact absurd h hu0
    · rw [h] at hE
      cases hE
      refine vx_catch hown [] _ _ htab (fun z hz => nomatch hz) (by decide) (by decide) (htg (.classLink RL 26 "java/lang/IllegalArgumentException") (gw_t (tin5 (List.mem_of_getElem? (i := 80) rfl)) rfl)) (va_Nw.use rfl (hV.1 _ (List.mem_filter.mpr ⟨(tin5 (List.mem_of_getElem? (i := 96) rfl)), rfl⟩))) hce hcv hcl ?_
      refine lv_astore (lv' := [(5, .ref q9), (0, .ref (ad 0 0)), (1, .int p1), (2, .int p2), (3, .int p3), (4, .int p4)]) hx hb dL_sell_10 hl (by decide) rfl (fun ls hl => ?_)
      refine lv_sipush (v := -7777) hx hb dL_sell_12 (by decide) ?_
      exact W.iret (v := -7777) hx hb hr (fun t ht hW => ⟨⟨-7777, (), rfl, trivial, by show PX SX Γ ad q.2.2 t.heap; rw [ht]; exact hB⟩, hS.F ht⟩) hS.2.2 dL_sell_15 hnl
    · rw [h] at hE
      cases hE
      refine vx_catch hown [_] _ _ htab (fun z hz => Or.inr ⟨by rw [List.mem_singleton.mp hz]; decide, "java/lang/IllegalArgumentException", by rw [List.mem_singleton.mp hz]; exact htg (.classLink RL 26 "java/lang/IllegalArgumentException") (gw_t (tin5 (List.mem_of_getElem? (i := 80) rfl)) rfl), hNC 3 (by decide) (by decide) 1 (by decide) (by decide) (by decide)⟩) (by decide) (by decide) (htg (.classLink RL 36 "java/lang/IllegalStateException") (gw_t (tin5 (List.mem_of_getElem? (i := 81) rfl)) rfl)) (va_Nw.use rfl (hV.1 _ (List.mem_filter.mpr ⟨(tin5 (List.mem_of_getElem? (i := 167) rfl)), rfl⟩))) hce hcv hcl ?_
      refine lv_astore (lv' := [(5, .ref q9), (0, .ref (ad 0 0)), (1, .int p1), (2, .int p2), (3, .int p3), (4, .int p4)]) hx hb dL_sell_16 hl (by decide) rfl (fun ls hl => ?_)
      refine lv_sipush (v := -7777) hx hb dL_sell_18 (by decide) ?_
      exact W.iret (v := -7777) hx hb hr (fun t ht hW => ⟨⟨-7777, (), rfl, trivial, by show PX SX Γ ad q.2.2 t.heap; rw [ht]; exact hB⟩, hS.F ht⟩) hS.2.2 dL_sell_21 hnl
  · rw [ht] at hB
    refine W.widen (k := 5) (n := 30) (Nat.le_of_ble_eq_true rfl) (Nat.le_of_ble_eq_true rfl) ?_
    exact W.iret (v := r) hx hb hr (fun t ht hW => ⟨⟨r, (), rfl, trivial, by show PX SX Γ ad q.2.2 t.heap; rw [ht]; exact hB⟩, hS.F ht⟩) hS.2.2 dL_sell_9 hnl
set_option maxHeartbeats 4000000 in
set_option maxRecDepth 100000 in
theorem wx_visit (l : Launch) (hst : l.stackTraces = false) (Γ : Wc) (ad : Nat → Nat → Nat) (A : Nat → Prop) (p1 p2 : Int32) (σ : Sig) (q : Xe) (hF : f11_visit p1 p2 σ = some q) (hq : q.1 = 0 ∨ q.1 = 2) : MWx l Γ ad A yL_visit cL_visit 4 [(0, 6, 7, 24)] 8 133 2 [.ref (ad 0 0), .int p1, .int p2] σ q.2.2 := by
  refine va_MetW (cc := cL_visit) (maxL := 4) (ret := some .int) (hh := [(0, 6, 7, 24)]) (by decide) rfl ?_
  intro p e s m args below meth c s₁ B hml hv
  obtain ⟨rfl, ⟨hP, hK, hA, hZ, hV⟩, hNC⟩ := hv
  have hx := B.exec
  have hb := B.bytes
  have hr := B.returns
  have hnl := B.notSynchronized
  have hts := atoms_spec (ws := .codeWith yL_visit cL_visit 4 (some .int) [(0, 6, 7, 24)] :: gw) B.pre
  have htg : ∀ w ∈ gw, w.before _ s = true := fun w h => hts w (List.mem_cons_of_mem _ h)
  have hown : s.vm.findClass RL = some m.cls := findClass_of_methodNamed B.named
  have htab := vx_table (x := yL_visit) B (hts _ List.mem_cons_self)
  have cx : CX SX Γ ad A RL cL_visit 4 p s m _ c := ⟨hx, hb, hml, hown, htg, hK, hA, hZ, hV⟩
  have hPS : PS SX Γ ad A s σ s.heap [] := ⟨hP, va_S.rf⟩
  have hS : va_S A s.heap s.heap [] := va_S.rf
  have hl := lv_entry ([.ref (ad 0 0), .int p1, .int p2]) (n := 4) (Nat.le_of_ble_eq_true rfl)
  rw [lg_entry_eq]
  generalize (lg_sl ([.ref (ad 0 0), .int p1, .int p2]) ++ List.replicate (4 - (lg_sl ([.ref (ad 0 0), .int p1, .int p2])).length) Slot.unset).toArray = ls at hl ⊢
  have hl : lv_has ls 4 [(0, .ref (ad 0 0)), (1, .int p1), (2, .int p2)] := hl
  refine lv_aload_n hx hb dL_visit_0 rfl (lv_at hl 0 rfl) ?_
  refine lv_iload_n hx hb dL_visit_1 rfl (lv_at hl 1 rfl) ?_
  refine lv_iload_n hx hb dL_visit_2 rfl (lv_at hl 2 rfl) ?_
  refine vx_calli (vx_runV (As := [.int p1, .int p2]) (rest := []) (fixOf cx) (w11_visit l hst Γ ad A p1 p2 σ q hF) (mw13_62.callB cx ⟨Nat.le_of_ble_eq_true rfl, Nat.le_of_ble_eq_true rfl⟩) ⟨Pre.blind, recvOf cx hPS (dXr (by decide)) rfl rfl, fun U hU hW => ⟨rfl, cx.pre hPS hU hW⟩⟩ rfl rfl hl.1 rfl (lv_room (Nat.le_of_ble_eq_true rfl)) dL_visit_3 ⟨Nat.le_of_ble_eq_true rfl, Nat.le_of_ble_eq_true rfl⟩) hS (fun q _ h => h) (fun q h => h) (fun q _ h => h) (fun E ce q9 u t H1 locs1 ht hvm hu hb' hz hf' hS hce hcv hcl => ?_) (fun r u t H1 locs1 ht hvm hw hB hz1 hk1 hS => ?_)
  · obtain ⟨hE, hB⟩ := hb'
    rw [ht] at hB
    have hu0 : q.1 ≠ 0 := hu
    refine vx_widen (k := 2) (n := 12) (Nat.le_of_ble_eq_true rfl) (Nat.le_of_ble_eq_true rfl) ?_
    rcases hq with h | h
    · exact absurd h hu0
    · rw [h] at hE
      cases hE
      refine vx_catch hown [] _ _ htab (fun z hz => nomatch hz) (by decide) (by decide) (htg (.classLink RL 24 "java/lang/IndexOutOfBoundsException") (gw_t (tin5 (List.mem_of_getElem? (i := 185) rfl)) rfl)) (va_Nw.use rfl (hV.1 _ (List.mem_filter.mpr ⟨(tin5 (List.mem_of_getElem? (i := 197) rfl)), rfl⟩))) hce hcv hcl ?_
      refine lv_astore_n (lv' := [(3, .ref q9), (0, .ref (ad 0 0)), (1, .int p1), (2, .int p2)]) hx hb dL_visit_7 rfl hl (by decide) rfl (fun ls hl => ?_)
      refine lv_sipush (v := -7777) hx hb dL_visit_8 (by decide) ?_
      exact W.iret (v := -7777) hx hb hr (fun t ht hW => ⟨⟨-7777, (), rfl, trivial, by show PX SX Γ ad q.2.2 t.heap; rw [ht]; exact hB⟩, hS.F ht⟩) hS.2.2 dL_visit_11 hnl
  · rw [ht] at hB
    refine W.widen (k := 2) (n := 12) (Nat.le_of_ble_eq_true rfl) (Nat.le_of_ble_eq_true rfl) ?_
    exact W.iret (v := r) hx hb hr (fun t ht hW => ⟨⟨r, (), rfl, trivial, by show PX SX Γ ad q.2.2 t.heap; rw [ht]; exact hB⟩, hS.F ht⟩) hS.2.2 dL_visit_6 hnl
theorem mw13_65 : MWv RL 65 yX11_pluck cX11_pluck 3 (some .int) 2 := ⟨gw_t (tin5 (List.mem_of_getElem? (i := 221) rfl)) rfl, gw_t (tin5 (List.mem_of_getElem? (i := 222) rfl)) rfl, gw_t (tin5 (List.mem_of_getElem? (i := 223) rfl)) rfl, gw_t (tin1 (List.mem_of_getElem? (i := 1) rfl)) rfl, gw_t (tin5 (List.mem_of_getElem? (i := 224) rfl)) rfl, by decide, by decide, by decide +kernel⟩
theorem mz13_209 : MWz RL 209 yL_pluck cL_pluck 4 (some .int) [(0, 6, 7, 24), (0, 6, 12, 26), (0, 6, 17, 36)] 3 := ⟨gw_t (tin5 (List.mem_of_getElem? (i := 218) rfl)) rfl, gw_t (tin5 (List.mem_of_getElem? (i := 219) rfl)) rfl, gw_t (tin1 (List.mem_of_getElem? (i := 0) rfl)) rfl, gw_t (tin5 (List.mem_of_getElem? (i := 220) rfl)) rfl, by decide, by decide, by decide +kernel⟩
set_option maxHeartbeats 4000000 in
set_option maxRecDepth 100000 in
theorem wx_pluck (l : Launch) (hst : l.stackTraces = false) (Γ : Wc) (ad : Nat → Nat → Nat) (A : Nat → Prop) (p1 p2 : Int32) (σ : Sig) (q : Xe) (hF : f11_pluck p1 p2 σ = some q) (hq : q.1 = 0 ∨ q.1 = 2 ∨ q.1 = 1 ∨ q.1 = 3) : MWx l Γ ad A yL_pluck cL_pluck 4 [(0, 6, 7, 24), (0, 6, 12, 26), (0, 6, 17, 36)] 8 134 3 [.ref (ad 0 0), .int p1, .int p2] σ q.2.2 := by
  refine va_MetW (cc := cL_pluck) (maxL := 4) (ret := some .int) (hh := [(0, 6, 7, 24), (0, 6, 12, 26), (0, 6, 17, 36)]) (by decide) rfl ?_
  intro p e s m args below meth c s₁ B hml hv
  obtain ⟨rfl, ⟨hP, hK, hA, hZ, hV⟩, hNC⟩ := hv
  have hx := B.exec
  have hb := B.bytes
  have hr := B.returns
  have hnl := B.notSynchronized
  have hts := atoms_spec (ws := .codeWith yL_pluck cL_pluck 4 (some .int) [(0, 6, 7, 24), (0, 6, 12, 26), (0, 6, 17, 36)] :: gw) B.pre
  have htg : ∀ w ∈ gw, w.before _ s = true := fun w h => hts w (List.mem_cons_of_mem _ h)
  have hown : s.vm.findClass RL = some m.cls := findClass_of_methodNamed B.named
  have htab := vx_table (x := yL_pluck) B (hts _ List.mem_cons_self)
  have cx : CX SX Γ ad A RL cL_pluck 4 p s m _ c := ⟨hx, hb, hml, hown, htg, hK, hA, hZ, hV⟩
  have hPS : PS SX Γ ad A s σ s.heap [] := ⟨hP, va_S.rf⟩
  have hS : va_S A s.heap s.heap [] := va_S.rf
  have hl := lv_entry ([.ref (ad 0 0), .int p1, .int p2]) (n := 4) (Nat.le_of_ble_eq_true rfl)
  rw [lg_entry_eq]
  generalize (lg_sl ([.ref (ad 0 0), .int p1, .int p2]) ++ List.replicate (4 - (lg_sl ([.ref (ad 0 0), .int p1, .int p2])).length) Slot.unset).toArray = ls at hl ⊢
  have hl : lv_has ls 4 [(0, .ref (ad 0 0)), (1, .int p1), (2, .int p2)] := hl
  refine lv_aload_n hx hb dL_pluck_0 rfl (lv_at hl 0 rfl) ?_
  refine lv_iload_n hx hb dL_pluck_1 rfl (lv_at hl 1 rfl) ?_
  refine lv_iload_n hx hb dL_pluck_2 rfl (lv_at hl 2 rfl) ?_
  refine vx_calli (vx_runV (As := [.int p1, .int p2]) (rest := []) (fixOf cx) (w11_pluck l hst Γ ad A p1 p2 σ q hF) (mw13_65.callB cx ⟨Nat.le_of_ble_eq_true rfl, Nat.le_of_ble_eq_true rfl⟩) ⟨Pre.blind, recvOf cx hPS (dXr (by decide)) rfl rfl, fun U hU hW => ⟨rfl, cx.pre hPS hU hW⟩⟩ rfl rfl hl.1 rfl (lv_room (Nat.le_of_ble_eq_true rfl)) dL_pluck_3 ⟨Nat.le_of_ble_eq_true rfl, Nat.le_of_ble_eq_true rfl⟩) hS (fun q _ h => h) (fun q h => h) (fun q _ h => h) (fun E ce q9 u t H1 locs1 ht hvm hu hb' hz hf' hS hce hcv hcl => ?_) (fun r u t H1 locs1 ht hvm hw hB hz1 hk1 hS => ?_)
  · obtain ⟨hE, hB⟩ := hb'
    rw [ht] at hB
    have hu0 : q.1 ≠ 0 := hu
    refine vx_widen (k := 3) (n := 18) (Nat.le_of_ble_eq_true rfl) (Nat.le_of_ble_eq_true rfl) ?_
    rcases hq with h | h | h | h
    · exact absurd h hu0
    · rw [h] at hE
      cases hE
      refine vx_catch hown [] _ _ htab (fun z hz => nomatch hz) (by decide) (by decide) (htg (.classLink RL 24 "java/lang/IndexOutOfBoundsException") (gw_t (tin5 (List.mem_of_getElem? (i := 185) rfl)) rfl)) (va_Nw.use rfl (hV.1 _ (List.mem_filter.mpr ⟨(tin5 (List.mem_of_getElem? (i := 197) rfl)), rfl⟩))) hce hcv hcl ?_
      refine lv_astore_n (lv' := [(3, .ref q9), (0, .ref (ad 0 0)), (1, .int p1), (2, .int p2)]) hx hb dL_pluck_7 rfl hl (by decide) rfl (fun ls hl => ?_)
      refine lv_sipush (v := -7777) hx hb dL_pluck_8 (by decide) ?_
      exact W.iret (v := -7777) hx hb hr (fun t ht hW => ⟨⟨-7777, (), rfl, trivial, by show PX SX Γ ad q.2.2 t.heap; rw [ht]; exact hB⟩, hS.F ht⟩) hS.2.2 dL_pluck_11 hnl
    · rw [h] at hE
      cases hE
      refine vx_catch hown [_] _ _ htab (fun z hz => Or.inr ⟨by rw [List.mem_singleton.mp hz]; decide, "java/lang/IndexOutOfBoundsException", by rw [List.mem_singleton.mp hz]; exact htg (.classLink RL 24 "java/lang/IndexOutOfBoundsException") (gw_t (tin5 (List.mem_of_getElem? (i := 185) rfl)) rfl), hNC 1 (by decide) (by decide) 2 (by decide) (by decide) (by decide)⟩) (by decide) (by decide) (htg (.classLink RL 26 "java/lang/IllegalArgumentException") (gw_t (tin5 (List.mem_of_getElem? (i := 80) rfl)) rfl)) (va_Nw.use rfl (hV.1 _ (List.mem_filter.mpr ⟨(tin5 (List.mem_of_getElem? (i := 96) rfl)), rfl⟩))) hce hcv hcl ?_
      refine lv_astore_n (lv' := [(3, .ref q9), (0, .ref (ad 0 0)), (1, .int p1), (2, .int p2)]) hx hb dL_pluck_12 rfl hl (by decide) rfl (fun ls hl => ?_)
      refine lv_sipush (v := -7777) hx hb dL_pluck_13 (by decide) ?_
      exact W.iret (v := -7777) hx hb hr (fun t ht hW => ⟨⟨-7777, (), rfl, trivial, by show PX SX Γ ad q.2.2 t.heap; rw [ht]; exact hB⟩, hS.F ht⟩) hS.2.2 dL_pluck_16 hnl
    · rw [h] at hE
      cases hE
      refine vx_catch hown [_, _] _ _ htab (fun z hz => (List.mem_cons.mp hz).elim (fun e9 => Or.inr ⟨by subst e9; decide, "java/lang/IndexOutOfBoundsException", by subst e9; exact htg (.classLink RL 24 "java/lang/IndexOutOfBoundsException") (gw_t (tin5 (List.mem_of_getElem? (i := 185) rfl)) rfl), hNC 3 (by decide) (by decide) 2 (by decide) (by decide) (by decide)⟩) (fun hz => (fun e9 => Or.inr ⟨by subst e9; decide, "java/lang/IllegalArgumentException", by subst e9; exact htg (.classLink RL 26 "java/lang/IllegalArgumentException") (gw_t (tin5 (List.mem_of_getElem? (i := 80) rfl)) rfl), hNC 3 (by decide) (by decide) 1 (by decide) (by decide) (by decide)⟩) (List.mem_singleton.mp hz))) (by decide) (by decide) (htg (.classLink RL 36 "java/lang/IllegalStateException") (gw_t (tin5 (List.mem_of_getElem? (i := 81) rfl)) rfl)) (va_Nw.use rfl (hV.1 _ (List.mem_filter.mpr ⟨(tin5 (List.mem_of_getElem? (i := 167) rfl)), rfl⟩))) hce hcv hcl ?_
      refine lv_astore_n (lv' := [(3, .ref q9), (0, .ref (ad 0 0)), (1, .int p1), (2, .int p2)]) hx hb dL_pluck_17 rfl hl (by decide) rfl (fun ls hl => ?_)
      refine lv_sipush (v := -7777) hx hb dL_pluck_18 (by decide) ?_
      exact W.iret (v := -7777) hx hb hr (fun t ht hW => ⟨⟨-7777, (), rfl, trivial, by show PX SX Γ ad q.2.2 t.heap; rw [ht]; exact hB⟩, hS.F ht⟩) hS.2.2 dL_pluck_21 hnl
  · rw [ht] at hB
    refine W.widen (k := 3) (n := 18) (Nat.le_of_ble_eq_true rfl) (Nat.le_of_ble_eq_true rfl) ?_
    exact W.iret (v := r) hx hb hr (fun t ht hW => ⟨⟨r, (), rfl, trivial, by show PX SX Γ ad q.2.2 t.heap; rw [ht]; exact hB⟩, hS.F ht⟩) hS.2.2 dL_pluck_6 hnl
set_option maxHeartbeats 4000000 in
set_option maxRecDepth 100000 in
theorem wx_pass (l : Launch) (hst : l.stackTraces = false) (Γ : Wc) (ad : Nat → Nat → Nat) (A : Nat → Prop) (p1 : Int32) (σ : Sig) (q : Xe) (hF : f11_pass p1 σ = some q) (hq : q.1 = 0 ∨ q.1 = 1 ∨ q.1 = 3) : MWx l Γ ad A yL_pass cL_pass 3 [(0, 5, 6, 26), (0, 5, 11, 36)] 8 133 2 [.ref (ad 0 0), .int p1] σ q.2.2 := by
  refine va_MetW (cc := cL_pass) (maxL := 3) (ret := some .int) (hh := [(0, 5, 6, 26), (0, 5, 11, 36)]) (by decide) rfl ?_
  intro p e s m args below meth c s₁ B hml hv
  obtain ⟨rfl, ⟨hP, hK, hA, hZ, hV⟩, hNC⟩ := hv
  have hx := B.exec
  have hb := B.bytes
  have hr := B.returns
  have hnl := B.notSynchronized
  have hts := atoms_spec (ws := .codeWith yL_pass cL_pass 3 (some .int) [(0, 5, 6, 26), (0, 5, 11, 36)] :: gw) B.pre
  have htg : ∀ w ∈ gw, w.before _ s = true := fun w h => hts w (List.mem_cons_of_mem _ h)
  have hown : s.vm.findClass RL = some m.cls := findClass_of_methodNamed B.named
  have htab := vx_table (x := yL_pass) B (hts _ List.mem_cons_self)
  have cx : CX SX Γ ad A RL cL_pass 3 p s m _ c := ⟨hx, hb, hml, hown, htg, hK, hA, hZ, hV⟩
  have hPS : PS SX Γ ad A s σ s.heap [] := ⟨hP, va_S.rf⟩
  have hS : va_S A s.heap s.heap [] := va_S.rf
  have hl := lv_entry ([.ref (ad 0 0), .int p1]) (n := 3) (Nat.le_of_ble_eq_true rfl)
  rw [lg_entry_eq]
  generalize (lg_sl ([.ref (ad 0 0), .int p1]) ++ List.replicate (3 - (lg_sl ([.ref (ad 0 0), .int p1])).length) Slot.unset).toArray = ls at hl ⊢
  have hl : lv_has ls 3 [(0, .ref (ad 0 0)), (1, .int p1)] := hl
  refine lv_aload_n hx hb dL_pass_0 rfl (lv_at hl 0 rfl) ?_
  refine lv_iload_n hx hb dL_pass_1 rfl (lv_at hl 1 rfl) ?_
  refine vx_calli (vx_runV (As := [.int p1]) (rest := []) (fixOf cx) (w11_pass l hst Γ ad A p1 σ q hF) (mw13_71.callB cx ⟨Nat.le_of_ble_eq_true rfl, Nat.le_of_ble_eq_true rfl⟩) ⟨Pre.blind, recvOf cx hPS (dXr (by decide)) rfl rfl, fun U hU hW => ⟨rfl, cx.pre hPS hU hW⟩⟩ rfl rfl hl.1 rfl (lv_room (Nat.le_of_ble_eq_true rfl)) dL_pass_2 ⟨Nat.le_of_ble_eq_true rfl, Nat.le_of_ble_eq_true rfl⟩) hS (fun q _ h => h) (fun q h => h) (fun q _ h => h) (fun E ce q9 u t H1 locs1 ht hvm hu hb' hz hf' hS hce hcv hcl => ?_) (fun r u t H1 locs1 ht hvm hw hB hz1 hk1 hS => ?_)
  · obtain ⟨hE, hB⟩ := hb'
    rw [ht] at hB
    have hu0 : q.1 ≠ 0 := hu
    refine vx_widen (k := 2) (n := 12) (Nat.le_of_ble_eq_true rfl) (Nat.le_of_ble_eq_true rfl) ?_
    rcases hq with h | h | h
    · exact absurd h hu0
    · rw [h] at hE
      cases hE
      refine vx_catch hown [] _ _ htab (fun z hz => nomatch hz) (by decide) (by decide) (htg (.classLink RL 26 "java/lang/IllegalArgumentException") (gw_t (tin5 (List.mem_of_getElem? (i := 80) rfl)) rfl)) (va_Nw.use rfl (hV.1 _ (List.mem_filter.mpr ⟨(tin5 (List.mem_of_getElem? (i := 96) rfl)), rfl⟩))) hce hcv hcl ?_
      refine lv_astore_n (lv' := [(2, .ref q9), (0, .ref (ad 0 0)), (1, .int p1)]) hx hb dL_pass_6 rfl hl (by decide) rfl (fun ls hl => ?_)
      refine lv_sipush (v := -7777) hx hb dL_pass_7 (by decide) ?_
      exact W.iret (v := -7777) hx hb hr (fun t ht hW => ⟨⟨-7777, (), rfl, trivial, by show PX SX Γ ad q.2.2 t.heap; rw [ht]; exact hB⟩, hS.F ht⟩) hS.2.2 dL_pass_10 hnl
    · rw [h] at hE
      cases hE
      refine vx_catch hown [_] _ _ htab (fun z hz => Or.inr ⟨by rw [List.mem_singleton.mp hz]; decide, "java/lang/IllegalArgumentException", by rw [List.mem_singleton.mp hz]; exact htg (.classLink RL 26 "java/lang/IllegalArgumentException") (gw_t (tin5 (List.mem_of_getElem? (i := 80) rfl)) rfl), hNC 3 (by decide) (by decide) 1 (by decide) (by decide) (by decide)⟩) (by decide) (by decide) (htg (.classLink RL 36 "java/lang/IllegalStateException") (gw_t (tin5 (List.mem_of_getElem? (i := 81) rfl)) rfl)) (va_Nw.use rfl (hV.1 _ (List.mem_filter.mpr ⟨(tin5 (List.mem_of_getElem? (i := 167) rfl)), rfl⟩))) hce hcv hcl ?_
      refine lv_astore_n (lv' := [(2, .ref q9), (0, .ref (ad 0 0)), (1, .int p1)]) hx hb dL_pass_11 rfl hl (by decide) rfl (fun ls hl => ?_)
      refine lv_sipush (v := -7777) hx hb dL_pass_12 (by decide) ?_
      exact W.iret (v := -7777) hx hb hr (fun t ht hW => ⟨⟨-7777, (), rfl, trivial, by show PX SX Γ ad q.2.2 t.heap; rw [ht]; exact hB⟩, hS.F ht⟩) hS.2.2 dL_pass_15 hnl
  · rw [ht] at hB
    refine W.widen (k := 2) (n := 12) (Nat.le_of_ble_eq_true rfl) (Nat.le_of_ble_eq_true rfl) ?_
    exact W.iret (v := r) hx hb hr (fun t ht hW => ⟨⟨r, (), rfl, trivial, by show PX SX Γ ad q.2.2 t.heap; rw [ht]; exact hB⟩, hS.F ht⟩) hS.2.2 dL_pass_5 hnl
theorem mw13_53 : MWv RL 53 yX11_reportLost cX11_reportLost 2 (some .int) 1 := ⟨gw_t (tin5 (List.mem_of_getElem? (i := 239) rfl)) rfl, gw_t (tin6 (List.mem_of_getElem? (i := 0) rfl)) rfl, gw_t (tin6 (List.mem_of_getElem? (i := 1) rfl)) rfl, gw_t (tin1 (List.mem_of_getElem? (i := 1) rfl)) rfl, gw_t (tin6 (List.mem_of_getElem? (i := 2) rfl)) rfl, by decide, by decide, by decide +kernel⟩
theorem mz13_214 : MWz RL 214 yL_reportLost cL_reportLost 3 (some .int) [(0, 5, 6, 24), (0, 5, 11, 36)] 2 := ⟨gw_t (tin5 (List.mem_of_getElem? (i := 236) rfl)) rfl, gw_t (tin5 (List.mem_of_getElem? (i := 237) rfl)) rfl, gw_t (tin1 (List.mem_of_getElem? (i := 0) rfl)) rfl, gw_t (tin5 (List.mem_of_getElem? (i := 238) rfl)) rfl, by decide, by decide, by decide +kernel⟩
set_option maxHeartbeats 4000000 in
set_option maxRecDepth 100000 in
theorem wx_reportLost (l : Launch) (hst : l.stackTraces = false) (Γ : Wc) (ad : Nat → Nat → Nat) (A : Nat → Prop) (p1 : Int32) (σ : Sig) (q : Xe) (hF : f11_reportLost p1 σ = some q) (hq : q.1 = 0 ∨ q.1 = 2 ∨ q.1 = 3) : MWx l Γ ad A yL_reportLost cL_reportLost 3 [(0, 5, 6, 24), (0, 5, 11, 36)] 8 132 2 [.ref (ad 0 0), .int p1] σ q.2.2 := by
  refine va_MetW (cc := cL_reportLost) (maxL := 3) (ret := some .int) (hh := [(0, 5, 6, 24), (0, 5, 11, 36)]) (by decide) rfl ?_
  intro p e s m args below meth c s₁ B hml hv
  obtain ⟨rfl, ⟨hP, hK, hA, hZ, hV⟩, hNC⟩ := hv
  have hx := B.exec
  have hb := B.bytes
  have hr := B.returns
  have hnl := B.notSynchronized
  have hts := atoms_spec (ws := .codeWith yL_reportLost cL_reportLost 3 (some .int) [(0, 5, 6, 24), (0, 5, 11, 36)] :: gw) B.pre
  have htg : ∀ w ∈ gw, w.before _ s = true := fun w h => hts w (List.mem_cons_of_mem _ h)
  have hown : s.vm.findClass RL = some m.cls := findClass_of_methodNamed B.named
  have htab := vx_table (x := yL_reportLost) B (hts _ List.mem_cons_self)
  have cx : CX SX Γ ad A RL cL_reportLost 3 p s m _ c := ⟨hx, hb, hml, hown, htg, hK, hA, hZ, hV⟩
  have hPS : PS SX Γ ad A s σ s.heap [] := ⟨hP, va_S.rf⟩
  have hS : va_S A s.heap s.heap [] := va_S.rf
  have hl := lv_entry ([.ref (ad 0 0), .int p1]) (n := 3) (Nat.le_of_ble_eq_true rfl)
  rw [lg_entry_eq]
  generalize (lg_sl ([.ref (ad 0 0), .int p1]) ++ List.replicate (3 - (lg_sl ([.ref (ad 0 0), .int p1])).length) Slot.unset).toArray = ls at hl ⊢
  have hl : lv_has ls 3 [(0, .ref (ad 0 0)), (1, .int p1)] := hl
  refine lv_aload_n hx hb dL_reportLost_0 rfl (lv_at hl 0 rfl) ?_
  refine lv_iload_n hx hb dL_reportLost_1 rfl (lv_at hl 1 rfl) ?_
  refine vx_calli (vx_runV (As := [.int p1]) (rest := []) (fixOf cx) (w11_reportLost l hst Γ ad A p1 σ q hF) (mw13_53.callB cx ⟨Nat.le_of_ble_eq_true rfl, Nat.le_of_ble_eq_true rfl⟩) ⟨Pre.blind, recvOf cx hPS (dXr (by decide)) rfl rfl, fun U hU hW => ⟨rfl, cx.pre hPS hU hW⟩⟩ rfl rfl hl.1 rfl (lv_room (Nat.le_of_ble_eq_true rfl)) dL_reportLost_2 ⟨Nat.le_of_ble_eq_true rfl, Nat.le_of_ble_eq_true rfl⟩) hS (fun q _ h => h) (fun q h => h) (fun q _ h => h) (fun E ce q9 u t H1 locs1 ht hvm hu hb' hz hf' hS hce hcv hcl => ?_) (fun r u t H1 locs1 ht hvm hw hB hz1 hk1 hS => ?_)
  · obtain ⟨hE, hB⟩ := hb'
    rw [ht] at hB
    have hu0 : q.1 ≠ 0 := hu
    refine vx_widen (k := 2) (n := 12) (Nat.le_of_ble_eq_true rfl) (Nat.le_of_ble_eq_true rfl) ?_
    rcases hq with h | h | h
    · exact absurd h hu0
    · rw [h] at hE
      cases hE
      refine vx_catch hown [] _ _ htab (fun z hz => nomatch hz) (by decide) (by decide) (htg (.classLink RL 24 "java/lang/IndexOutOfBoundsException") (gw_t (tin5 (List.mem_of_getElem? (i := 185) rfl)) rfl)) (va_Nw.use rfl (hV.1 _ (List.mem_filter.mpr ⟨(tin5 (List.mem_of_getElem? (i := 197) rfl)), rfl⟩))) hce hcv hcl ?_
      refine lv_astore_n (lv' := [(2, .ref q9), (0, .ref (ad 0 0)), (1, .int p1)]) hx hb dL_reportLost_6 rfl hl (by decide) rfl (fun ls hl => ?_)
      refine lv_sipush (v := -7777) hx hb dL_reportLost_7 (by decide) ?_
      exact W.iret (v := -7777) hx hb hr (fun t ht hW => ⟨⟨-7777, (), rfl, trivial, by show PX SX Γ ad q.2.2 t.heap; rw [ht]; exact hB⟩, hS.F ht⟩) hS.2.2 dL_reportLost_10 hnl
    · rw [h] at hE
      cases hE
      refine vx_catch hown [_] _ _ htab (fun z hz => Or.inr ⟨by rw [List.mem_singleton.mp hz]; decide, "java/lang/IndexOutOfBoundsException", by rw [List.mem_singleton.mp hz]; exact htg (.classLink RL 24 "java/lang/IndexOutOfBoundsException") (gw_t (tin5 (List.mem_of_getElem? (i := 185) rfl)) rfl), hNC 3 (by decide) (by decide) 2 (by decide) (by decide) (by decide)⟩) (by decide) (by decide) (htg (.classLink RL 36 "java/lang/IllegalStateException") (gw_t (tin5 (List.mem_of_getElem? (i := 81) rfl)) rfl)) (va_Nw.use rfl (hV.1 _ (List.mem_filter.mpr ⟨(tin5 (List.mem_of_getElem? (i := 167) rfl)), rfl⟩))) hce hcv hcl ?_
      refine lv_astore_n (lv' := [(2, .ref q9), (0, .ref (ad 0 0)), (1, .int p1)]) hx hb dL_reportLost_11 rfl hl (by decide) rfl (fun ls hl => ?_)
      refine lv_sipush (v := -7777) hx hb dL_reportLost_12 (by decide) ?_
      exact W.iret (v := -7777) hx hb hr (fun t ht hW => ⟨⟨-7777, (), rfl, trivial, by show PX SX Γ ad q.2.2 t.heap; rw [ht]; exact hB⟩, hS.F ht⟩) hS.2.2 dL_reportLost_15 hnl
  · rw [ht] at hB
    refine W.widen (k := 2) (n := 12) (Nat.le_of_ble_eq_true rfl) (Nat.le_of_ble_eq_true rfl) ?_
    exact W.iret (v := r) hx hb hr (fun t ht hW => ⟨⟨r, (), rfl, trivial, by show PX SX Γ ad q.2.2 t.heap; rw [ht]; exact hB⟩, hS.F ht⟩) hS.2.2 dL_reportLost_5 hnl
theorem mw13_56 : MWv RL 56 yX11_replaceCard cX11_replaceCard 2 (some .int) 1 := ⟨gw_t (tin6 (List.mem_of_getElem? (i := 17) rfl)) rfl, gw_t (tin6 (List.mem_of_getElem? (i := 18) rfl)) rfl, gw_t (tin6 (List.mem_of_getElem? (i := 19) rfl)) rfl, gw_t (tin1 (List.mem_of_getElem? (i := 1) rfl)) rfl, gw_t (tin6 (List.mem_of_getElem? (i := 20) rfl)) rfl, by decide, by decide, by decide +kernel⟩
theorem mz13_216 : MWz RL 216 yL_replaceCard cL_replaceCard 3 (some .int) [(0, 5, 6, 24), (0, 5, 11, 36)] 2 := ⟨gw_t (tin6 (List.mem_of_getElem? (i := 14) rfl)) rfl, gw_t (tin6 (List.mem_of_getElem? (i := 15) rfl)) rfl, gw_t (tin1 (List.mem_of_getElem? (i := 0) rfl)) rfl, gw_t (tin6 (List.mem_of_getElem? (i := 16) rfl)) rfl, by decide, by decide, by decide +kernel⟩
set_option maxHeartbeats 4000000 in
set_option maxRecDepth 100000 in
theorem wx_replaceCard (l : Launch) (hst : l.stackTraces = false) (Γ : Wc) (ad : Nat → Nat → Nat) (A : Nat → Prop) (p1 : Int32) (σ : Sig) (q : Xe) (hF : f11_replaceCard p1 σ = some q) (hq : q.1 = 0 ∨ q.1 = 2 ∨ q.1 = 3) : MWx l Γ ad A yL_replaceCard cL_replaceCard 3 [(0, 5, 6, 24), (0, 5, 11, 36)] 8 132 2 [.ref (ad 0 0), .int p1] σ q.2.2 := by
  refine va_MetW (cc := cL_replaceCard) (maxL := 3) (ret := some .int) (hh := [(0, 5, 6, 24), (0, 5, 11, 36)]) (by decide) rfl ?_
  intro p e s m args below meth c s₁ B hml hv
  obtain ⟨rfl, ⟨hP, hK, hA, hZ, hV⟩, hNC⟩ := hv
  have hx := B.exec
  have hb := B.bytes
  have hr := B.returns
  have hnl := B.notSynchronized
  have hts := atoms_spec (ws := .codeWith yL_replaceCard cL_replaceCard 3 (some .int) [(0, 5, 6, 24), (0, 5, 11, 36)] :: gw) B.pre
  have htg : ∀ w ∈ gw, w.before _ s = true := fun w h => hts w (List.mem_cons_of_mem _ h)
  have hown : s.vm.findClass RL = some m.cls := findClass_of_methodNamed B.named
  have htab := vx_table (x := yL_replaceCard) B (hts _ List.mem_cons_self)
  have cx : CX SX Γ ad A RL cL_replaceCard 3 p s m _ c := ⟨hx, hb, hml, hown, htg, hK, hA, hZ, hV⟩
  have hPS : PS SX Γ ad A s σ s.heap [] := ⟨hP, va_S.rf⟩
  have hS : va_S A s.heap s.heap [] := va_S.rf
  have hl := lv_entry ([.ref (ad 0 0), .int p1]) (n := 3) (Nat.le_of_ble_eq_true rfl)
  rw [lg_entry_eq]
  generalize (lg_sl ([.ref (ad 0 0), .int p1]) ++ List.replicate (3 - (lg_sl ([.ref (ad 0 0), .int p1])).length) Slot.unset).toArray = ls at hl ⊢
  have hl : lv_has ls 3 [(0, .ref (ad 0 0)), (1, .int p1)] := hl
  refine lv_aload_n hx hb dL_replaceCard_0 rfl (lv_at hl 0 rfl) ?_
  refine lv_iload_n hx hb dL_replaceCard_1 rfl (lv_at hl 1 rfl) ?_
  refine vx_calli (vx_runV (As := [.int p1]) (rest := []) (fixOf cx) (w11_replaceCard l hst Γ ad A p1 σ q hF) (mw13_56.callB cx ⟨Nat.le_of_ble_eq_true rfl, Nat.le_of_ble_eq_true rfl⟩) ⟨Pre.blind, recvOf cx hPS (dXr (by decide)) rfl rfl, fun U hU hW => ⟨rfl, cx.pre hPS hU hW⟩⟩ rfl rfl hl.1 rfl (lv_room (Nat.le_of_ble_eq_true rfl)) dL_replaceCard_2 ⟨Nat.le_of_ble_eq_true rfl, Nat.le_of_ble_eq_true rfl⟩) hS (fun q _ h => h) (fun q h => h) (fun q _ h => h) (fun E ce q9 u t H1 locs1 ht hvm hu hb' hz hf' hS hce hcv hcl => ?_) (fun r u t H1 locs1 ht hvm hw hB hz1 hk1 hS => ?_)
  · obtain ⟨hE, hB⟩ := hb'
    rw [ht] at hB
    have hu0 : q.1 ≠ 0 := hu
    refine vx_widen (k := 2) (n := 12) (Nat.le_of_ble_eq_true rfl) (Nat.le_of_ble_eq_true rfl) ?_
    rcases hq with h | h | h
    · exact absurd h hu0
    · rw [h] at hE
      cases hE
      refine vx_catch hown [] _ _ htab (fun z hz => nomatch hz) (by decide) (by decide) (htg (.classLink RL 24 "java/lang/IndexOutOfBoundsException") (gw_t (tin5 (List.mem_of_getElem? (i := 185) rfl)) rfl)) (va_Nw.use rfl (hV.1 _ (List.mem_filter.mpr ⟨(tin5 (List.mem_of_getElem? (i := 197) rfl)), rfl⟩))) hce hcv hcl ?_
      refine lv_astore_n (lv' := [(2, .ref q9), (0, .ref (ad 0 0)), (1, .int p1)]) hx hb dL_replaceCard_6 rfl hl (by decide) rfl (fun ls hl => ?_)
      refine lv_sipush (v := -7777) hx hb dL_replaceCard_7 (by decide) ?_
      exact W.iret (v := -7777) hx hb hr (fun t ht hW => ⟨⟨-7777, (), rfl, trivial, by show PX SX Γ ad q.2.2 t.heap; rw [ht]; exact hB⟩, hS.F ht⟩) hS.2.2 dL_replaceCard_10 hnl
    · rw [h] at hE
      cases hE
      refine vx_catch hown [_] _ _ htab (fun z hz => Or.inr ⟨by rw [List.mem_singleton.mp hz]; decide, "java/lang/IndexOutOfBoundsException", by rw [List.mem_singleton.mp hz]; exact htg (.classLink RL 24 "java/lang/IndexOutOfBoundsException") (gw_t (tin5 (List.mem_of_getElem? (i := 185) rfl)) rfl), hNC 3 (by decide) (by decide) 2 (by decide) (by decide) (by decide)⟩) (by decide) (by decide) (htg (.classLink RL 36 "java/lang/IllegalStateException") (gw_t (tin5 (List.mem_of_getElem? (i := 81) rfl)) rfl)) (va_Nw.use rfl (hV.1 _ (List.mem_filter.mpr ⟨(tin5 (List.mem_of_getElem? (i := 167) rfl)), rfl⟩))) hce hcv hcl ?_
      refine lv_astore_n (lv' := [(2, .ref q9), (0, .ref (ad 0 0)), (1, .int p1)]) hx hb dL_replaceCard_11 rfl hl (by decide) rfl (fun ls hl => ?_)
      refine lv_sipush (v := -7777) hx hb dL_replaceCard_12 (by decide) ?_
      exact W.iret (v := -7777) hx hb hr (fun t ht hW => ⟨⟨-7777, (), rfl, trivial, by show PX SX Γ ad q.2.2 t.heap; rw [ht]; exact hB⟩, hS.F ht⟩) hS.2.2 dL_replaceCard_15 hnl
  · rw [ht] at hB
    refine W.widen (k := 2) (n := 12) (Nat.le_of_ble_eq_true rfl) (Nat.le_of_ble_eq_true rfl) ?_
    exact W.iret (v := r) hx hb hr (fun t ht hW => ⟨⟨r, (), rfl, trivial, by show PX SX Γ ad q.2.2 t.heap; rw [ht]; exact hB⟩, hS.F ht⟩) hS.2.2 dL_replaceCard_5 hnl
theorem mw13_59 : MWv RL 59 yX11_refundPass cX11_refundPass 2 (some .int) 1 := ⟨gw_t (tin6 (List.mem_of_getElem? (i := 26) rfl)) rfl, gw_t (tin6 (List.mem_of_getElem? (i := 27) rfl)) rfl, gw_t (tin6 (List.mem_of_getElem? (i := 28) rfl)) rfl, gw_t (tin1 (List.mem_of_getElem? (i := 1) rfl)) rfl, gw_t (tin6 (List.mem_of_getElem? (i := 29) rfl)) rfl, by decide, by decide, by decide +kernel⟩
theorem mz13_218 : MWz RL 218 yL_refundPass cL_refundPass 3 (some .int) [(0, 5, 6, 24), (0, 5, 11, 36)] 2 := ⟨gw_t (tin6 (List.mem_of_getElem? (i := 23) rfl)) rfl, gw_t (tin6 (List.mem_of_getElem? (i := 24) rfl)) rfl, gw_t (tin1 (List.mem_of_getElem? (i := 0) rfl)) rfl, gw_t (tin6 (List.mem_of_getElem? (i := 25) rfl)) rfl, by decide, by decide, by decide +kernel⟩
set_option maxHeartbeats 4000000 in
set_option maxRecDepth 100000 in
theorem wx_refundPass (l : Launch) (hst : l.stackTraces = false) (Γ : Wc) (ad : Nat → Nat → Nat) (A : Nat → Prop) (p1 : Int32) (σ : Sig) (q : Xe) (hF : f11_refundPass p1 σ = some q) (hq : q.1 = 0 ∨ q.1 = 2 ∨ q.1 = 3) : MWx l Γ ad A yL_refundPass cL_refundPass 3 [(0, 5, 6, 24), (0, 5, 11, 36)] 8 132 2 [.ref (ad 0 0), .int p1] σ q.2.2 := by
  refine va_MetW (cc := cL_refundPass) (maxL := 3) (ret := some .int) (hh := [(0, 5, 6, 24), (0, 5, 11, 36)]) (by decide) rfl ?_
  intro p e s m args below meth c s₁ B hml hv
  obtain ⟨rfl, ⟨hP, hK, hA, hZ, hV⟩, hNC⟩ := hv
  have hx := B.exec
  have hb := B.bytes
  have hr := B.returns
  have hnl := B.notSynchronized
  have hts := atoms_spec (ws := .codeWith yL_refundPass cL_refundPass 3 (some .int) [(0, 5, 6, 24), (0, 5, 11, 36)] :: gw) B.pre
  have htg : ∀ w ∈ gw, w.before _ s = true := fun w h => hts w (List.mem_cons_of_mem _ h)
  have hown : s.vm.findClass RL = some m.cls := findClass_of_methodNamed B.named
  have htab := vx_table (x := yL_refundPass) B (hts _ List.mem_cons_self)
  have cx : CX SX Γ ad A RL cL_refundPass 3 p s m _ c := ⟨hx, hb, hml, hown, htg, hK, hA, hZ, hV⟩
  have hPS : PS SX Γ ad A s σ s.heap [] := ⟨hP, va_S.rf⟩
  have hS : va_S A s.heap s.heap [] := va_S.rf
  have hl := lv_entry ([.ref (ad 0 0), .int p1]) (n := 3) (Nat.le_of_ble_eq_true rfl)
  rw [lg_entry_eq]
  generalize (lg_sl ([.ref (ad 0 0), .int p1]) ++ List.replicate (3 - (lg_sl ([.ref (ad 0 0), .int p1])).length) Slot.unset).toArray = ls at hl ⊢
  have hl : lv_has ls 3 [(0, .ref (ad 0 0)), (1, .int p1)] := hl
  refine lv_aload_n hx hb dL_refundPass_0 rfl (lv_at hl 0 rfl) ?_
  refine lv_iload_n hx hb dL_refundPass_1 rfl (lv_at hl 1 rfl) ?_
  refine vx_calli (vx_runV (As := [.int p1]) (rest := []) (fixOf cx) (w11_refundPass l hst Γ ad A p1 σ q hF) (mw13_59.callB cx ⟨Nat.le_of_ble_eq_true rfl, Nat.le_of_ble_eq_true rfl⟩) ⟨Pre.blind, recvOf cx hPS (dXr (by decide)) rfl rfl, fun U hU hW => ⟨rfl, cx.pre hPS hU hW⟩⟩ rfl rfl hl.1 rfl (lv_room (Nat.le_of_ble_eq_true rfl)) dL_refundPass_2 ⟨Nat.le_of_ble_eq_true rfl, Nat.le_of_ble_eq_true rfl⟩) hS (fun q _ h => h) (fun q h => h) (fun q _ h => h) (fun E ce q9 u t H1 locs1 ht hvm hu hb' hz hf' hS hce hcv hcl => ?_) (fun r u t H1 locs1 ht hvm hw hB hz1 hk1 hS => ?_)
  · obtain ⟨hE, hB⟩ := hb'
    rw [ht] at hB
    have hu0 : q.1 ≠ 0 := hu
    refine vx_widen (k := 2) (n := 12) (Nat.le_of_ble_eq_true rfl) (Nat.le_of_ble_eq_true rfl) ?_
    rcases hq with h | h | h
    · exact absurd h hu0
    · rw [h] at hE
      cases hE
      refine vx_catch hown [] _ _ htab (fun z hz => nomatch hz) (by decide) (by decide) (htg (.classLink RL 24 "java/lang/IndexOutOfBoundsException") (gw_t (tin5 (List.mem_of_getElem? (i := 185) rfl)) rfl)) (va_Nw.use rfl (hV.1 _ (List.mem_filter.mpr ⟨(tin5 (List.mem_of_getElem? (i := 197) rfl)), rfl⟩))) hce hcv hcl ?_
      refine lv_astore_n (lv' := [(2, .ref q9), (0, .ref (ad 0 0)), (1, .int p1)]) hx hb dL_refundPass_6 rfl hl (by decide) rfl (fun ls hl => ?_)
      refine lv_sipush (v := -7777) hx hb dL_refundPass_7 (by decide) ?_
      exact W.iret (v := -7777) hx hb hr (fun t ht hW => ⟨⟨-7777, (), rfl, trivial, by show PX SX Γ ad q.2.2 t.heap; rw [ht]; exact hB⟩, hS.F ht⟩) hS.2.2 dL_refundPass_10 hnl
    · rw [h] at hE
      cases hE
      refine vx_catch hown [_] _ _ htab (fun z hz => Or.inr ⟨by rw [List.mem_singleton.mp hz]; decide, "java/lang/IndexOutOfBoundsException", by rw [List.mem_singleton.mp hz]; exact htg (.classLink RL 24 "java/lang/IndexOutOfBoundsException") (gw_t (tin5 (List.mem_of_getElem? (i := 185) rfl)) rfl), hNC 3 (by decide) (by decide) 2 (by decide) (by decide) (by decide)⟩) (by decide) (by decide) (htg (.classLink RL 36 "java/lang/IllegalStateException") (gw_t (tin5 (List.mem_of_getElem? (i := 81) rfl)) rfl)) (va_Nw.use rfl (hV.1 _ (List.mem_filter.mpr ⟨(tin5 (List.mem_of_getElem? (i := 167) rfl)), rfl⟩))) hce hcv hcl ?_
      refine lv_astore_n (lv' := [(2, .ref q9), (0, .ref (ad 0 0)), (1, .int p1)]) hx hb dL_refundPass_11 rfl hl (by decide) rfl (fun ls hl => ?_)
      refine lv_sipush (v := -7777) hx hb dL_refundPass_12 (by decide) ?_
      exact W.iret (v := -7777) hx hb hr (fun t ht hW => ⟨⟨-7777, (), rfl, trivial, by show PX SX Γ ad q.2.2 t.heap; rw [ht]; exact hB⟩, hS.F ht⟩) hS.2.2 dL_refundPass_15 hnl
  · rw [ht] at hB
    refine W.widen (k := 2) (n := 12) (Nat.le_of_ble_eq_true rfl) (Nat.le_of_ble_eq_true rfl) ?_
    exact W.iret (v := r) hx hb hr (fun t ht hW => ⟨⟨r, (), rfl, trivial, by show PX SX Γ ad q.2.2 t.heap; rw [ht]; exact hB⟩, hS.F ht⟩) hS.2.2 dL_refundPass_5 hnl
theorem mw13_47 : MWv RL 47 yX11_extend cX11_extend 3 (some .int) 2 := ⟨gw_t (tin6 (List.mem_of_getElem? (i := 34) rfl)) rfl, gw_t (tin6 (List.mem_of_getElem? (i := 35) rfl)) rfl, gw_t (tin6 (List.mem_of_getElem? (i := 36) rfl)) rfl, gw_t (tin1 (List.mem_of_getElem? (i := 1) rfl)) rfl, gw_t (tin6 (List.mem_of_getElem? (i := 37) rfl)) rfl, by decide, by decide, by decide +kernel⟩
theorem mz13_220 : MWz RL 220 yL_extend cL_extend 4 (some .int) [(0, 6, 7, 24), (0, 6, 12, 26), (0, 6, 17, 36)] 3 := ⟨gw_t (tin6 (List.mem_of_getElem? (i := 31) rfl)) rfl, gw_t (tin6 (List.mem_of_getElem? (i := 32) rfl)) rfl, gw_t (tin1 (List.mem_of_getElem? (i := 0) rfl)) rfl, gw_t (tin6 (List.mem_of_getElem? (i := 33) rfl)) rfl, by decide, by decide, by decide +kernel⟩
set_option maxHeartbeats 4000000 in
set_option maxRecDepth 100000 in
theorem wx_extend (l : Launch) (hst : l.stackTraces = false) (Γ : Wc) (ad : Nat → Nat → Nat) (A : Nat → Prop) (p1 p2 : Int32) (σ : Sig) (q : Xe) (hF : f11_extend p1 p2 σ = some q) (hq : q.1 = 0 ∨ q.1 = 2 ∨ q.1 = 1 ∨ q.1 = 3) : MWx l Γ ad A yL_extend cL_extend 4 [(0, 6, 7, 24), (0, 6, 12, 26), (0, 6, 17, 36)] 8 134 4 [.ref (ad 0 0), .int p1, .int p2] σ q.2.2 := by
  refine va_MetW (cc := cL_extend) (maxL := 4) (ret := some .int) (hh := [(0, 6, 7, 24), (0, 6, 12, 26), (0, 6, 17, 36)]) (by decide) rfl ?_
  intro p e s m args below meth c s₁ B hml hv
  obtain ⟨rfl, ⟨hP, hK, hA, hZ, hV⟩, hNC⟩ := hv
  have hx := B.exec
  have hb := B.bytes
  have hr := B.returns
  have hnl := B.notSynchronized
  have hts := atoms_spec (ws := .codeWith yL_extend cL_extend 4 (some .int) [(0, 6, 7, 24), (0, 6, 12, 26), (0, 6, 17, 36)] :: gw) B.pre
  have htg : ∀ w ∈ gw, w.before _ s = true := fun w h => hts w (List.mem_cons_of_mem _ h)
  have hown : s.vm.findClass RL = some m.cls := findClass_of_methodNamed B.named
  have htab := vx_table (x := yL_extend) B (hts _ List.mem_cons_self)
  have cx : CX SX Γ ad A RL cL_extend 4 p s m _ c := ⟨hx, hb, hml, hown, htg, hK, hA, hZ, hV⟩
  have hPS : PS SX Γ ad A s σ s.heap [] := ⟨hP, va_S.rf⟩
  have hS : va_S A s.heap s.heap [] := va_S.rf
  have hl := lv_entry ([.ref (ad 0 0), .int p1, .int p2]) (n := 4) (Nat.le_of_ble_eq_true rfl)
  rw [lg_entry_eq]
  generalize (lg_sl ([.ref (ad 0 0), .int p1, .int p2]) ++ List.replicate (4 - (lg_sl ([.ref (ad 0 0), .int p1, .int p2])).length) Slot.unset).toArray = ls at hl ⊢
  have hl : lv_has ls 4 [(0, .ref (ad 0 0)), (1, .int p1), (2, .int p2)] := hl
  refine lv_aload_n hx hb dL_extend_0 rfl (lv_at hl 0 rfl) ?_
  refine lv_iload_n hx hb dL_extend_1 rfl (lv_at hl 1 rfl) ?_
  refine lv_iload_n hx hb dL_extend_2 rfl (lv_at hl 2 rfl) ?_
  refine vx_calli (vx_runV (As := [.int p1, .int p2]) (rest := []) (fixOf cx) (w11_extend l hst Γ ad A p1 p2 σ q hF) (mw13_47.callB cx ⟨Nat.le_of_ble_eq_true rfl, Nat.le_of_ble_eq_true rfl⟩) ⟨Pre.blind, recvOf cx hPS (dXr (by decide)) rfl rfl, fun U hU hW => ⟨rfl, cx.pre hPS hU hW⟩⟩ rfl rfl hl.1 rfl (lv_room (Nat.le_of_ble_eq_true rfl)) dL_extend_3 ⟨Nat.le_of_ble_eq_true rfl, Nat.le_of_ble_eq_true rfl⟩) hS (fun q _ h => h) (fun q h => h) (fun q _ h => h) (fun E ce q9 u t H1 locs1 ht hvm hu hb' hz hf' hS hce hcv hcl => ?_) (fun r u t H1 locs1 ht hvm hw hB hz1 hk1 hS => ?_)
  · obtain ⟨hE, hB⟩ := hb'
    rw [ht] at hB
    have hu0 : q.1 ≠ 0 := hu
    refine vx_widen (k := 4) (n := 24) (Nat.le_of_ble_eq_true rfl) (Nat.le_of_ble_eq_true rfl) ?_
    rcases hq with h | h | h | h
    · exact absurd h hu0
    · rw [h] at hE
      cases hE
      refine vx_catch hown [] _ _ htab (fun z hz => nomatch hz) (by decide) (by decide) (htg (.classLink RL 24 "java/lang/IndexOutOfBoundsException") (gw_t (tin5 (List.mem_of_getElem? (i := 185) rfl)) rfl)) (va_Nw.use rfl (hV.1 _ (List.mem_filter.mpr ⟨(tin5 (List.mem_of_getElem? (i := 197) rfl)), rfl⟩))) hce hcv hcl ?_
      refine lv_astore_n (lv' := [(3, .ref q9), (0, .ref (ad 0 0)), (1, .int p1), (2, .int p2)]) hx hb dL_extend_7 rfl hl (by decide) rfl (fun ls hl => ?_)
      refine lv_sipush (v := -7777) hx hb dL_extend_8 (by decide) ?_
      exact W.iret (v := -7777) hx hb hr (fun t ht hW => ⟨⟨-7777, (), rfl, trivial, by show PX SX Γ ad q.2.2 t.heap; rw [ht]; exact hB⟩, hS.F ht⟩) hS.2.2 dL_extend_11 hnl
    · rw [h] at hE
      cases hE
      refine vx_catch hown [_] _ _ htab (fun z hz => Or.inr ⟨by rw [List.mem_singleton.mp hz]; decide, "java/lang/IndexOutOfBoundsException", by rw [List.mem_singleton.mp hz]; exact htg (.classLink RL 24 "java/lang/IndexOutOfBoundsException") (gw_t (tin5 (List.mem_of_getElem? (i := 185) rfl)) rfl), hNC 1 (by decide) (by decide) 2 (by decide) (by decide) (by decide)⟩) (by decide) (by decide) (htg (.classLink RL 26 "java/lang/IllegalArgumentException") (gw_t (tin5 (List.mem_of_getElem? (i := 80) rfl)) rfl)) (va_Nw.use rfl (hV.1 _ (List.mem_filter.mpr ⟨(tin5 (List.mem_of_getElem? (i := 96) rfl)), rfl⟩))) hce hcv hcl ?_
      refine lv_astore_n (lv' := [(3, .ref q9), (0, .ref (ad 0 0)), (1, .int p1), (2, .int p2)]) hx hb dL_extend_12 rfl hl (by decide) rfl (fun ls hl => ?_)
      refine lv_sipush (v := -7777) hx hb dL_extend_13 (by decide) ?_
      exact W.iret (v := -7777) hx hb hr (fun t ht hW => ⟨⟨-7777, (), rfl, trivial, by show PX SX Γ ad q.2.2 t.heap; rw [ht]; exact hB⟩, hS.F ht⟩) hS.2.2 dL_extend_16 hnl
    · rw [h] at hE
      cases hE
      refine vx_catch hown [_, _] _ _ htab (fun z hz => (List.mem_cons.mp hz).elim (fun e9 => Or.inr ⟨by subst e9; decide, "java/lang/IndexOutOfBoundsException", by subst e9; exact htg (.classLink RL 24 "java/lang/IndexOutOfBoundsException") (gw_t (tin5 (List.mem_of_getElem? (i := 185) rfl)) rfl), hNC 3 (by decide) (by decide) 2 (by decide) (by decide) (by decide)⟩) (fun hz => (fun e9 => Or.inr ⟨by subst e9; decide, "java/lang/IllegalArgumentException", by subst e9; exact htg (.classLink RL 26 "java/lang/IllegalArgumentException") (gw_t (tin5 (List.mem_of_getElem? (i := 80) rfl)) rfl), hNC 3 (by decide) (by decide) 1 (by decide) (by decide) (by decide)⟩) (List.mem_singleton.mp hz))) (by decide) (by decide) (htg (.classLink RL 36 "java/lang/IllegalStateException") (gw_t (tin5 (List.mem_of_getElem? (i := 81) rfl)) rfl)) (va_Nw.use rfl (hV.1 _ (List.mem_filter.mpr ⟨(tin5 (List.mem_of_getElem? (i := 167) rfl)), rfl⟩))) hce hcv hcl ?_
      refine lv_astore_n (lv' := [(3, .ref q9), (0, .ref (ad 0 0)), (1, .int p1), (2, .int p2)]) hx hb dL_extend_17 rfl hl (by decide) rfl (fun ls hl => ?_)
      refine lv_sipush (v := -7777) hx hb dL_extend_18 (by decide) ?_
      exact W.iret (v := -7777) hx hb hr (fun t ht hW => ⟨⟨-7777, (), rfl, trivial, by show PX SX Γ ad q.2.2 t.heap; rw [ht]; exact hB⟩, hS.F ht⟩) hS.2.2 dL_extend_21 hnl
  · rw [ht] at hB
    refine W.widen (k := 4) (n := 24) (Nat.le_of_ble_eq_true rfl) (Nat.le_of_ble_eq_true rfl) ?_
    exact W.iret (v := r) hx hb hr (fun t ht hW => ⟨⟨r, (), rfl, trivial, by show PX SX Γ ad q.2.2 t.heap; rw [ht]; exact hB⟩, hS.F ht⟩) hS.2.2 dL_extend_6 hnl
theorem mw13_50 : MWv RL 50 yX11_addScent cX11_addScent 3 (some .int) 2 := ⟨gw_t (tin6 (List.mem_of_getElem? (i := 54) rfl)) rfl, gw_t (tin6 (List.mem_of_getElem? (i := 55) rfl)) rfl, gw_t (tin6 (List.mem_of_getElem? (i := 56) rfl)) rfl, gw_t (tin1 (List.mem_of_getElem? (i := 1) rfl)) rfl, gw_t (tin6 (List.mem_of_getElem? (i := 57) rfl)) rfl, by decide, by decide, by decide +kernel⟩
theorem mz13_222 : MWz RL 222 yL_addScent cL_addScent 4 (some .int) [(0, 6, 7, 24), (0, 6, 12, 36)] 3 := ⟨gw_t (tin6 (List.mem_of_getElem? (i := 51) rfl)) rfl, gw_t (tin6 (List.mem_of_getElem? (i := 52) rfl)) rfl, gw_t (tin1 (List.mem_of_getElem? (i := 0) rfl)) rfl, gw_t (tin6 (List.mem_of_getElem? (i := 53) rfl)) rfl, by decide, by decide, by decide +kernel⟩
set_option maxHeartbeats 4000000 in
set_option maxRecDepth 100000 in
theorem wx_addScent (l : Launch) (hst : l.stackTraces = false) (Γ : Wc) (ad : Nat → Nat → Nat) (A : Nat → Prop) (p1 p2 : Int32) (σ : Sig) (q : Xe) (hF : f11_addScent p1 p2 σ = some q) (hq : q.1 = 0 ∨ q.1 = 2 ∨ q.1 = 3) : MWx l Γ ad A yL_addScent cL_addScent 4 [(0, 6, 7, 24), (0, 6, 12, 36)] 8 133 4 [.ref (ad 0 0), .int p1, .int p2] σ q.2.2 := by
  refine va_MetW (cc := cL_addScent) (maxL := 4) (ret := some .int) (hh := [(0, 6, 7, 24), (0, 6, 12, 36)]) (by decide) rfl ?_
  intro p e s m args below meth c s₁ B hml hv
  obtain ⟨rfl, ⟨hP, hK, hA, hZ, hV⟩, hNC⟩ := hv
  have hx := B.exec
  have hb := B.bytes
  have hr := B.returns
  have hnl := B.notSynchronized
  have hts := atoms_spec (ws := .codeWith yL_addScent cL_addScent 4 (some .int) [(0, 6, 7, 24), (0, 6, 12, 36)] :: gw) B.pre
  have htg : ∀ w ∈ gw, w.before _ s = true := fun w h => hts w (List.mem_cons_of_mem _ h)
  have hown : s.vm.findClass RL = some m.cls := findClass_of_methodNamed B.named
  have htab := vx_table (x := yL_addScent) B (hts _ List.mem_cons_self)
  have cx : CX SX Γ ad A RL cL_addScent 4 p s m _ c := ⟨hx, hb, hml, hown, htg, hK, hA, hZ, hV⟩
  have hPS : PS SX Γ ad A s σ s.heap [] := ⟨hP, va_S.rf⟩
  have hS : va_S A s.heap s.heap [] := va_S.rf
  have hl := lv_entry ([.ref (ad 0 0), .int p1, .int p2]) (n := 4) (Nat.le_of_ble_eq_true rfl)
  rw [lg_entry_eq]
  generalize (lg_sl ([.ref (ad 0 0), .int p1, .int p2]) ++ List.replicate (4 - (lg_sl ([.ref (ad 0 0), .int p1, .int p2])).length) Slot.unset).toArray = ls at hl ⊢
  have hl : lv_has ls 4 [(0, .ref (ad 0 0)), (1, .int p1), (2, .int p2)] := hl
  refine lv_aload_n hx hb dL_addScent_0 rfl (lv_at hl 0 rfl) ?_
  refine lv_iload_n hx hb dL_addScent_1 rfl (lv_at hl 1 rfl) ?_
  refine lv_iload_n hx hb dL_addScent_2 rfl (lv_at hl 2 rfl) ?_
  refine vx_calli (vx_runV (As := [.int p1, .int p2]) (rest := []) (fixOf cx) (w11_addScent l hst Γ ad A p1 p2 σ q hF) (mw13_50.callB cx ⟨Nat.le_of_ble_eq_true rfl, Nat.le_of_ble_eq_true rfl⟩) ⟨Pre.blind, recvOf cx hPS (dXr (by decide)) rfl rfl, fun U hU hW => ⟨rfl, cx.pre hPS hU hW⟩⟩ rfl rfl hl.1 rfl (lv_room (Nat.le_of_ble_eq_true rfl)) dL_addScent_3 ⟨Nat.le_of_ble_eq_true rfl, Nat.le_of_ble_eq_true rfl⟩) hS (fun q _ h => h) (fun q h => h) (fun q _ h => h) (fun E ce q9 u t H1 locs1 ht hvm hu hb' hz hf' hS hce hcv hcl => ?_) (fun r u t H1 locs1 ht hvm hw hB hz1 hk1 hS => ?_)
  · obtain ⟨hE, hB⟩ := hb'
    rw [ht] at hB
    have hu0 : q.1 ≠ 0 := hu
    refine vx_widen (k := 4) (n := 24) (Nat.le_of_ble_eq_true rfl) (Nat.le_of_ble_eq_true rfl) ?_
    rcases hq with h | h | h
    · exact absurd h hu0
    · rw [h] at hE
      cases hE
      refine vx_catch hown [] _ _ htab (fun z hz => nomatch hz) (by decide) (by decide) (htg (.classLink RL 24 "java/lang/IndexOutOfBoundsException") (gw_t (tin5 (List.mem_of_getElem? (i := 185) rfl)) rfl)) (va_Nw.use rfl (hV.1 _ (List.mem_filter.mpr ⟨(tin5 (List.mem_of_getElem? (i := 197) rfl)), rfl⟩))) hce hcv hcl ?_
      refine lv_astore_n (lv' := [(3, .ref q9), (0, .ref (ad 0 0)), (1, .int p1), (2, .int p2)]) hx hb dL_addScent_7 rfl hl (by decide) rfl (fun ls hl => ?_)
      refine lv_sipush (v := -7777) hx hb dL_addScent_8 (by decide) ?_
      exact W.iret (v := -7777) hx hb hr (fun t ht hW => ⟨⟨-7777, (), rfl, trivial, by show PX SX Γ ad q.2.2 t.heap; rw [ht]; exact hB⟩, hS.F ht⟩) hS.2.2 dL_addScent_11 hnl
    · rw [h] at hE
      cases hE
      refine vx_catch hown [_] _ _ htab (fun z hz => Or.inr ⟨by rw [List.mem_singleton.mp hz]; decide, "java/lang/IndexOutOfBoundsException", by rw [List.mem_singleton.mp hz]; exact htg (.classLink RL 24 "java/lang/IndexOutOfBoundsException") (gw_t (tin5 (List.mem_of_getElem? (i := 185) rfl)) rfl), hNC 3 (by decide) (by decide) 2 (by decide) (by decide) (by decide)⟩) (by decide) (by decide) (htg (.classLink RL 36 "java/lang/IllegalStateException") (gw_t (tin5 (List.mem_of_getElem? (i := 81) rfl)) rfl)) (va_Nw.use rfl (hV.1 _ (List.mem_filter.mpr ⟨(tin5 (List.mem_of_getElem? (i := 167) rfl)), rfl⟩))) hce hcv hcl ?_
      refine lv_astore_n (lv' := [(3, .ref q9), (0, .ref (ad 0 0)), (1, .int p1), (2, .int p2)]) hx hb dL_addScent_12 rfl hl (by decide) rfl (fun ls hl => ?_)
      refine lv_sipush (v := -7777) hx hb dL_addScent_13 (by decide) ?_
      exact W.iret (v := -7777) hx hb hr (fun t ht hW => ⟨⟨-7777, (), rfl, trivial, by show PX SX Γ ad q.2.2 t.heap; rw [ht]; exact hB⟩, hS.F ht⟩) hS.2.2 dL_addScent_16 hnl
  · rw [ht] at hB
    refine W.widen (k := 4) (n := 24) (Nat.le_of_ble_eq_true rfl) (Nat.le_of_ble_eq_true rfl) ?_
    exact W.iret (v := r) hx hb hr (fun t ht hW => ⟨⟨r, (), rfl, trivial, by show PX SX Γ ad q.2.2 t.heap; rw [ht]; exact hB⟩, hS.F ht⟩) hS.2.2 dL_addScent_6 hnl
theorem mw13_68 : MWv RL 68 yX11_payFines cX11_payFines 3 (some .int) 2 := ⟨gw_t (tin6 (List.mem_of_getElem? (i := 71) rfl)) rfl, gw_t (tin6 (List.mem_of_getElem? (i := 72) rfl)) rfl, gw_t (tin6 (List.mem_of_getElem? (i := 73) rfl)) rfl, gw_t (tin1 (List.mem_of_getElem? (i := 1) rfl)) rfl, gw_t (tin6 (List.mem_of_getElem? (i := 74) rfl)) rfl, by decide, by decide, by decide +kernel⟩
theorem mz13_224 : MWz RL 224 yL_payFines cL_payFines 4 (some .int) [(0, 6, 7, 24), (0, 6, 12, 26), (0, 6, 17, 36)] 3 := ⟨gw_t (tin6 (List.mem_of_getElem? (i := 68) rfl)) rfl, gw_t (tin6 (List.mem_of_getElem? (i := 69) rfl)) rfl, gw_t (tin1 (List.mem_of_getElem? (i := 0) rfl)) rfl, gw_t (tin6 (List.mem_of_getElem? (i := 70) rfl)) rfl, by decide, by decide, by decide +kernel⟩
set_option maxHeartbeats 4000000 in
set_option maxRecDepth 100000 in
theorem wx_payFines (l : Launch) (hst : l.stackTraces = false) (Γ : Wc) (ad : Nat → Nat → Nat) (A : Nat → Prop) (p1 p2 : Int32) (σ : Sig) (q : Xe) (hF : f11_payFines p1 p2 σ = some q) (hq : q.1 = 0 ∨ q.1 = 2 ∨ q.1 = 1 ∨ q.1 = 3) : MWx l Γ ad A yL_payFines cL_payFines 4 [(0, 6, 7, 24), (0, 6, 12, 26), (0, 6, 17, 36)] 8 134 3 [.ref (ad 0 0), .int p1, .int p2] σ q.2.2 := by
  refine va_MetW (cc := cL_payFines) (maxL := 4) (ret := some .int) (hh := [(0, 6, 7, 24), (0, 6, 12, 26), (0, 6, 17, 36)]) (by decide) rfl ?_
  intro p e s m args below meth c s₁ B hml hv
  obtain ⟨rfl, ⟨hP, hK, hA, hZ, hV⟩, hNC⟩ := hv
  have hx := B.exec
  have hb := B.bytes
  have hr := B.returns
  have hnl := B.notSynchronized
  have hts := atoms_spec (ws := .codeWith yL_payFines cL_payFines 4 (some .int) [(0, 6, 7, 24), (0, 6, 12, 26), (0, 6, 17, 36)] :: gw) B.pre
  have htg : ∀ w ∈ gw, w.before _ s = true := fun w h => hts w (List.mem_cons_of_mem _ h)
  have hown : s.vm.findClass RL = some m.cls := findClass_of_methodNamed B.named
  have htab := vx_table (x := yL_payFines) B (hts _ List.mem_cons_self)
  have cx : CX SX Γ ad A RL cL_payFines 4 p s m _ c := ⟨hx, hb, hml, hown, htg, hK, hA, hZ, hV⟩
  have hPS : PS SX Γ ad A s σ s.heap [] := ⟨hP, va_S.rf⟩
  have hS : va_S A s.heap s.heap [] := va_S.rf
  have hl := lv_entry ([.ref (ad 0 0), .int p1, .int p2]) (n := 4) (Nat.le_of_ble_eq_true rfl)
  rw [lg_entry_eq]
  generalize (lg_sl ([.ref (ad 0 0), .int p1, .int p2]) ++ List.replicate (4 - (lg_sl ([.ref (ad 0 0), .int p1, .int p2])).length) Slot.unset).toArray = ls at hl ⊢
  have hl : lv_has ls 4 [(0, .ref (ad 0 0)), (1, .int p1), (2, .int p2)] := hl
  refine lv_aload_n hx hb dL_payFines_0 rfl (lv_at hl 0 rfl) ?_
  refine lv_iload_n hx hb dL_payFines_1 rfl (lv_at hl 1 rfl) ?_
  refine lv_iload_n hx hb dL_payFines_2 rfl (lv_at hl 2 rfl) ?_
  refine vx_calli (vx_runV (As := [.int p1, .int p2]) (rest := []) (fixOf cx) (w11_payFines l hst Γ ad A p1 p2 σ q hF) (mw13_68.callB cx ⟨Nat.le_of_ble_eq_true rfl, Nat.le_of_ble_eq_true rfl⟩) ⟨Pre.blind, recvOf cx hPS (dXr (by decide)) rfl rfl, fun U hU hW => ⟨rfl, cx.pre hPS hU hW⟩⟩ rfl rfl hl.1 rfl (lv_room (Nat.le_of_ble_eq_true rfl)) dL_payFines_3 ⟨Nat.le_of_ble_eq_true rfl, Nat.le_of_ble_eq_true rfl⟩) hS (fun q _ h => h) (fun q h => h) (fun q _ h => h) (fun E ce q9 u t H1 locs1 ht hvm hu hb' hz hf' hS hce hcv hcl => ?_) (fun r u t H1 locs1 ht hvm hw hB hz1 hk1 hS => ?_)
  · obtain ⟨hE, hB⟩ := hb'
    rw [ht] at hB
    have hu0 : q.1 ≠ 0 := hu
    refine vx_widen (k := 3) (n := 18) (Nat.le_of_ble_eq_true rfl) (Nat.le_of_ble_eq_true rfl) ?_
    rcases hq with h | h | h | h
    · exact absurd h hu0
    · rw [h] at hE
      cases hE
      refine vx_catch hown [] _ _ htab (fun z hz => nomatch hz) (by decide) (by decide) (htg (.classLink RL 24 "java/lang/IndexOutOfBoundsException") (gw_t (tin5 (List.mem_of_getElem? (i := 185) rfl)) rfl)) (va_Nw.use rfl (hV.1 _ (List.mem_filter.mpr ⟨(tin5 (List.mem_of_getElem? (i := 197) rfl)), rfl⟩))) hce hcv hcl ?_
      refine lv_astore_n (lv' := [(3, .ref q9), (0, .ref (ad 0 0)), (1, .int p1), (2, .int p2)]) hx hb dL_payFines_7 rfl hl (by decide) rfl (fun ls hl => ?_)
      refine lv_sipush (v := -7777) hx hb dL_payFines_8 (by decide) ?_
      exact W.iret (v := -7777) hx hb hr (fun t ht hW => ⟨⟨-7777, (), rfl, trivial, by show PX SX Γ ad q.2.2 t.heap; rw [ht]; exact hB⟩, hS.F ht⟩) hS.2.2 dL_payFines_11 hnl
    · rw [h] at hE
      cases hE
      refine vx_catch hown [_] _ _ htab (fun z hz => Or.inr ⟨by rw [List.mem_singleton.mp hz]; decide, "java/lang/IndexOutOfBoundsException", by rw [List.mem_singleton.mp hz]; exact htg (.classLink RL 24 "java/lang/IndexOutOfBoundsException") (gw_t (tin5 (List.mem_of_getElem? (i := 185) rfl)) rfl), hNC 1 (by decide) (by decide) 2 (by decide) (by decide) (by decide)⟩) (by decide) (by decide) (htg (.classLink RL 26 "java/lang/IllegalArgumentException") (gw_t (tin5 (List.mem_of_getElem? (i := 80) rfl)) rfl)) (va_Nw.use rfl (hV.1 _ (List.mem_filter.mpr ⟨(tin5 (List.mem_of_getElem? (i := 96) rfl)), rfl⟩))) hce hcv hcl ?_
      refine lv_astore_n (lv' := [(3, .ref q9), (0, .ref (ad 0 0)), (1, .int p1), (2, .int p2)]) hx hb dL_payFines_12 rfl hl (by decide) rfl (fun ls hl => ?_)
      refine lv_sipush (v := -7777) hx hb dL_payFines_13 (by decide) ?_
      exact W.iret (v := -7777) hx hb hr (fun t ht hW => ⟨⟨-7777, (), rfl, trivial, by show PX SX Γ ad q.2.2 t.heap; rw [ht]; exact hB⟩, hS.F ht⟩) hS.2.2 dL_payFines_16 hnl
    · rw [h] at hE
      cases hE
      refine vx_catch hown [_, _] _ _ htab (fun z hz => (List.mem_cons.mp hz).elim (fun e9 => Or.inr ⟨by subst e9; decide, "java/lang/IndexOutOfBoundsException", by subst e9; exact htg (.classLink RL 24 "java/lang/IndexOutOfBoundsException") (gw_t (tin5 (List.mem_of_getElem? (i := 185) rfl)) rfl), hNC 3 (by decide) (by decide) 2 (by decide) (by decide) (by decide)⟩) (fun hz => (fun e9 => Or.inr ⟨by subst e9; decide, "java/lang/IllegalArgumentException", by subst e9; exact htg (.classLink RL 26 "java/lang/IllegalArgumentException") (gw_t (tin5 (List.mem_of_getElem? (i := 80) rfl)) rfl), hNC 3 (by decide) (by decide) 1 (by decide) (by decide) (by decide)⟩) (List.mem_singleton.mp hz))) (by decide) (by decide) (htg (.classLink RL 36 "java/lang/IllegalStateException") (gw_t (tin5 (List.mem_of_getElem? (i := 81) rfl)) rfl)) (va_Nw.use rfl (hV.1 _ (List.mem_filter.mpr ⟨(tin5 (List.mem_of_getElem? (i := 167) rfl)), rfl⟩))) hce hcv hcl ?_
      refine lv_astore_n (lv' := [(3, .ref q9), (0, .ref (ad 0 0)), (1, .int p1), (2, .int p2)]) hx hb dL_payFines_17 rfl hl (by decide) rfl (fun ls hl => ?_)
      refine lv_sipush (v := -7777) hx hb dL_payFines_18 (by decide) ?_
      exact W.iret (v := -7777) hx hb hr (fun t ht hW => ⟨⟨-7777, (), rfl, trivial, by show PX SX Γ ad q.2.2 t.heap; rw [ht]; exact hB⟩, hS.F ht⟩) hS.2.2 dL_payFines_21 hnl
  · rw [ht] at hB
    refine W.widen (k := 3) (n := 18) (Nat.le_of_ble_eq_true rfl) (Nat.le_of_ble_eq_true rfl) ?_
    exact W.iret (v := r) hx hb hr (fun t ht hW => ⟨⟨r, (), rfl, trivial, by show PX SX Γ ad q.2.2 t.heap; rw [ht]; exact hB⟩, hS.F ht⟩) hS.2.2 dL_payFines_6 hnl
theorem mw13_19 : MWv RL 19 yX11_setPrice cX11_setPrice 4 (some .int) 2 := ⟨gw_t (tin6 (List.mem_of_getElem? (i := 79) rfl)) rfl, gw_t (tin6 (List.mem_of_getElem? (i := 80) rfl)) rfl, gw_t (tin6 (List.mem_of_getElem? (i := 81) rfl)) rfl, gw_t (tin1 (List.mem_of_getElem? (i := 1) rfl)) rfl, gw_t (tin6 (List.mem_of_getElem? (i := 82) rfl)) rfl, by decide, by decide, by decide +kernel⟩
theorem mz13_226 : MWz RL 226 yL_setPrice cL_setPrice 4 (some .int) [(0, 6, 7, 24), (0, 6, 12, 26)] 3 := ⟨gw_t (tin6 (List.mem_of_getElem? (i := 76) rfl)) rfl, gw_t (tin6 (List.mem_of_getElem? (i := 77) rfl)) rfl, gw_t (tin1 (List.mem_of_getElem? (i := 0) rfl)) rfl, gw_t (tin6 (List.mem_of_getElem? (i := 78) rfl)) rfl, by decide, by decide, by decide +kernel⟩
set_option maxHeartbeats 4000000 in
set_option maxRecDepth 100000 in
theorem wx_setPrice (l : Launch) (hst : l.stackTraces = false) (Γ : Wc) (ad : Nat → Nat → Nat) (A : Nat → Prop) (p1 p2 : Int32) (σ : Sig) (q : Xe) (hF : f11_setPrice p1 p2 σ = some q) (hq : q.1 = 0 ∨ q.1 = 2 ∨ q.1 = 1) : MWx l Γ ad A yL_setPrice cL_setPrice 4 [(0, 6, 7, 24), (0, 6, 12, 26)] 8 135 2 [.ref (ad 0 0), .int p1, .int p2] σ q.2.2 := by
  refine va_MetW (cc := cL_setPrice) (maxL := 4) (ret := some .int) (hh := [(0, 6, 7, 24), (0, 6, 12, 26)]) (by decide) rfl ?_
  intro p e s m args below meth c s₁ B hml hv
  obtain ⟨rfl, ⟨hP, hK, hA, hZ, hV⟩, hNC⟩ := hv
  have hx := B.exec
  have hb := B.bytes
  have hr := B.returns
  have hnl := B.notSynchronized
  have hts := atoms_spec (ws := .codeWith yL_setPrice cL_setPrice 4 (some .int) [(0, 6, 7, 24), (0, 6, 12, 26)] :: gw) B.pre
  have htg : ∀ w ∈ gw, w.before _ s = true := fun w h => hts w (List.mem_cons_of_mem _ h)
  have hown : s.vm.findClass RL = some m.cls := findClass_of_methodNamed B.named
  have htab := vx_table (x := yL_setPrice) B (hts _ List.mem_cons_self)
  have cx : CX SX Γ ad A RL cL_setPrice 4 p s m _ c := ⟨hx, hb, hml, hown, htg, hK, hA, hZ, hV⟩
  have hPS : PS SX Γ ad A s σ s.heap [] := ⟨hP, va_S.rf⟩
  have hS : va_S A s.heap s.heap [] := va_S.rf
  have hl := lv_entry ([.ref (ad 0 0), .int p1, .int p2]) (n := 4) (Nat.le_of_ble_eq_true rfl)
  rw [lg_entry_eq]
  generalize (lg_sl ([.ref (ad 0 0), .int p1, .int p2]) ++ List.replicate (4 - (lg_sl ([.ref (ad 0 0), .int p1, .int p2])).length) Slot.unset).toArray = ls at hl ⊢
  have hl : lv_has ls 4 [(0, .ref (ad 0 0)), (1, .int p1), (2, .int p2)] := hl
  refine lv_aload_n hx hb dL_setPrice_0 rfl (lv_at hl 0 rfl) ?_
  refine lv_iload_n hx hb dL_setPrice_1 rfl (lv_at hl 1 rfl) ?_
  refine lv_iload_n hx hb dL_setPrice_2 rfl (lv_at hl 2 rfl) ?_
  refine vx_calli (vx_runV (As := [.int p1, .int p2]) (rest := []) (fixOf cx) (w11_setPrice l hst Γ ad A p1 p2 σ q hF) (mw13_19.callB cx ⟨Nat.le_of_ble_eq_true rfl, Nat.le_of_ble_eq_true rfl⟩) ⟨Pre.blind, recvOf cx hPS (dXr (by decide)) rfl rfl, fun U hU hW => ⟨rfl, cx.pre hPS hU hW⟩⟩ rfl rfl hl.1 rfl (lv_room (Nat.le_of_ble_eq_true rfl)) dL_setPrice_3 ⟨Nat.le_of_ble_eq_true rfl, Nat.le_of_ble_eq_true rfl⟩) hS (fun q _ h => h) (fun q h => h) (fun q _ h => h) (fun E ce q9 u t H1 locs1 ht hvm hu hb' hz hf' hS hce hcv hcl => ?_) (fun r u t H1 locs1 ht hvm hw hB hz1 hk1 hS => ?_)
  · obtain ⟨hE, hB⟩ := hb'
    rw [ht] at hB
    have hu0 : q.1 ≠ 0 := hu
    refine vx_widen (k := 2) (n := 12) (Nat.le_of_ble_eq_true rfl) (Nat.le_of_ble_eq_true rfl) ?_
    rcases hq with h | h | h
    · exact absurd h hu0
    · rw [h] at hE
      cases hE
      refine vx_catch hown [] _ _ htab (fun z hz => nomatch hz) (by decide) (by decide) (htg (.classLink RL 24 "java/lang/IndexOutOfBoundsException") (gw_t (tin5 (List.mem_of_getElem? (i := 185) rfl)) rfl)) (va_Nw.use rfl (hV.1 _ (List.mem_filter.mpr ⟨(tin5 (List.mem_of_getElem? (i := 197) rfl)), rfl⟩))) hce hcv hcl ?_
      refine lv_astore_n (lv' := [(3, .ref q9), (0, .ref (ad 0 0)), (1, .int p1), (2, .int p2)]) hx hb dL_setPrice_7 rfl hl (by decide) rfl (fun ls hl => ?_)
      refine lv_sipush (v := -7777) hx hb dL_setPrice_8 (by decide) ?_
      exact W.iret (v := -7777) hx hb hr (fun t ht hW => ⟨⟨-7777, (), rfl, trivial, by show PX SX Γ ad q.2.2 t.heap; rw [ht]; exact hB⟩, hS.F ht⟩) hS.2.2 dL_setPrice_11 hnl
    · rw [h] at hE
      cases hE
      refine vx_catch hown [_] _ _ htab (fun z hz => Or.inr ⟨by rw [List.mem_singleton.mp hz]; decide, "java/lang/IndexOutOfBoundsException", by rw [List.mem_singleton.mp hz]; exact htg (.classLink RL 24 "java/lang/IndexOutOfBoundsException") (gw_t (tin5 (List.mem_of_getElem? (i := 185) rfl)) rfl), hNC 1 (by decide) (by decide) 2 (by decide) (by decide) (by decide)⟩) (by decide) (by decide) (htg (.classLink RL 26 "java/lang/IllegalArgumentException") (gw_t (tin5 (List.mem_of_getElem? (i := 80) rfl)) rfl)) (va_Nw.use rfl (hV.1 _ (List.mem_filter.mpr ⟨(tin5 (List.mem_of_getElem? (i := 96) rfl)), rfl⟩))) hce hcv hcl ?_
      refine lv_astore_n (lv' := [(3, .ref q9), (0, .ref (ad 0 0)), (1, .int p1), (2, .int p2)]) hx hb dL_setPrice_12 rfl hl (by decide) rfl (fun ls hl => ?_)
      refine lv_sipush (v := -7777) hx hb dL_setPrice_13 (by decide) ?_
      exact W.iret (v := -7777) hx hb hr (fun t ht hW => ⟨⟨-7777, (), rfl, trivial, by show PX SX Γ ad q.2.2 t.heap; rw [ht]; exact hB⟩, hS.F ht⟩) hS.2.2 dL_setPrice_16 hnl
  · rw [ht] at hB
    refine W.widen (k := 2) (n := 12) (Nat.le_of_ble_eq_true rfl) (Nat.le_of_ble_eq_true rfl) ?_
    exact W.iret (v := r) hx hb hr (fun t ht hW => ⟨⟨r, (), rfl, trivial, by show PX SX Γ ad q.2.2 t.heap; rw [ht]; exact hB⟩, hS.F ht⟩) hS.2.2 dL_setPrice_6 hnl
theorem mw13_28 : MWv RL 28 yX11_setRate cX11_setRate 3 (some .int) 1 := ⟨gw_t (tin6 (List.mem_of_getElem? (i := 86) rfl)) rfl, gw_t (tin6 (List.mem_of_getElem? (i := 87) rfl)) rfl, gw_t (tin6 (List.mem_of_getElem? (i := 88) rfl)) rfl, gw_t (tin1 (List.mem_of_getElem? (i := 1) rfl)) rfl, gw_t (tin6 (List.mem_of_getElem? (i := 89) rfl)) rfl, by decide, by decide, by decide +kernel⟩
theorem mz13_228 : MWz RL 228 yL_setRate cL_setRate 3 (some .int) [(0, 5, 6, 26)] 2 := ⟨gw_t (tin6 (List.mem_of_getElem? (i := 83) rfl)) rfl, gw_t (tin6 (List.mem_of_getElem? (i := 84) rfl)) rfl, gw_t (tin1 (List.mem_of_getElem? (i := 0) rfl)) rfl, gw_t (tin6 (List.mem_of_getElem? (i := 85) rfl)) rfl, by decide, by decide, by decide +kernel⟩
set_option maxHeartbeats 4000000 in
set_option maxRecDepth 100000 in
theorem wx_setRate (l : Launch) (hst : l.stackTraces = false) (Γ : Wc) (ad : Nat → Nat → Nat) (A : Nat → Prop) (p1 : Int32) (σ : Sig) (q : Xe) (hF : f11_setRate p1 σ = some q) (hq : q.1 = 0 ∨ q.1 = 1) : MWx l Γ ad A yL_setRate cL_setRate 3 [(0, 5, 6, 26)] 8 134 1 [.ref (ad 0 0), .int p1] σ q.2.2 := by
  refine va_MetW (cc := cL_setRate) (maxL := 3) (ret := some .int) (hh := [(0, 5, 6, 26)]) (by decide) rfl ?_
  intro p e s m args below meth c s₁ B hml hv
  obtain ⟨rfl, ⟨hP, hK, hA, hZ, hV⟩, hNC⟩ := hv
  have hx := B.exec
  have hb := B.bytes
  have hr := B.returns
  have hnl := B.notSynchronized
  have hts := atoms_spec (ws := .codeWith yL_setRate cL_setRate 3 (some .int) [(0, 5, 6, 26)] :: gw) B.pre
  have htg : ∀ w ∈ gw, w.before _ s = true := fun w h => hts w (List.mem_cons_of_mem _ h)
  have hown : s.vm.findClass RL = some m.cls := findClass_of_methodNamed B.named
  have htab := vx_table (x := yL_setRate) B (hts _ List.mem_cons_self)
  have cx : CX SX Γ ad A RL cL_setRate 3 p s m _ c := ⟨hx, hb, hml, hown, htg, hK, hA, hZ, hV⟩
  have hPS : PS SX Γ ad A s σ s.heap [] := ⟨hP, va_S.rf⟩
  have hS : va_S A s.heap s.heap [] := va_S.rf
  have hl := lv_entry ([.ref (ad 0 0), .int p1]) (n := 3) (Nat.le_of_ble_eq_true rfl)
  rw [lg_entry_eq]
  generalize (lg_sl ([.ref (ad 0 0), .int p1]) ++ List.replicate (3 - (lg_sl ([.ref (ad 0 0), .int p1])).length) Slot.unset).toArray = ls at hl ⊢
  have hl : lv_has ls 3 [(0, .ref (ad 0 0)), (1, .int p1)] := hl
  refine lv_aload_n hx hb dL_setRate_0 rfl (lv_at hl 0 rfl) ?_
  refine lv_iload_n hx hb dL_setRate_1 rfl (lv_at hl 1 rfl) ?_
  refine vx_calli (vx_runV (As := [.int p1]) (rest := []) (fixOf cx) (w11_setRate l hst Γ ad A p1 σ q hF) (mw13_28.callB cx ⟨Nat.le_of_ble_eq_true rfl, Nat.le_of_ble_eq_true rfl⟩) ⟨Pre.blind, recvOf cx hPS (dXr (by decide)) rfl rfl, fun U hU hW => ⟨rfl, cx.pre hPS hU hW⟩⟩ rfl rfl hl.1 rfl (lv_room (Nat.le_of_ble_eq_true rfl)) dL_setRate_2 ⟨Nat.le_of_ble_eq_true rfl, Nat.le_of_ble_eq_true rfl⟩) hS (fun q _ h => h) (fun q h => h) (fun q _ h => h) (fun E ce q9 u t H1 locs1 ht hvm hu hb' hz hf' hS hce hcv hcl => ?_) (fun r u t H1 locs1 ht hvm hw hB hz1 hk1 hS => ?_)
  · obtain ⟨hE, hB⟩ := hb'
    rw [ht] at hB
    have hu0 : q.1 ≠ 0 := hu
    refine vx_widen (k := 1) (n := 6) (Nat.le_of_ble_eq_true rfl) (Nat.le_of_ble_eq_true rfl) ?_
    rcases hq with h | h
    · exact absurd h hu0
    · rw [h] at hE
      cases hE
      refine vx_catch hown [] _ _ htab (fun z hz => nomatch hz) (by decide) (by decide) (htg (.classLink RL 26 "java/lang/IllegalArgumentException") (gw_t (tin5 (List.mem_of_getElem? (i := 80) rfl)) rfl)) (va_Nw.use rfl (hV.1 _ (List.mem_filter.mpr ⟨(tin5 (List.mem_of_getElem? (i := 96) rfl)), rfl⟩))) hce hcv hcl ?_
      refine lv_astore_n (lv' := [(2, .ref q9), (0, .ref (ad 0 0)), (1, .int p1)]) hx hb dL_setRate_6 rfl hl (by decide) rfl (fun ls hl => ?_)
      refine lv_sipush (v := -7777) hx hb dL_setRate_7 (by decide) ?_
      exact W.iret (v := -7777) hx hb hr (fun t ht hW => ⟨⟨-7777, (), rfl, trivial, by show PX SX Γ ad q.2.2 t.heap; rw [ht]; exact hB⟩, hS.F ht⟩) hS.2.2 dL_setRate_10 hnl
  · rw [ht] at hB
    refine W.widen (k := 1) (n := 6) (Nat.le_of_ble_eq_true rfl) (Nat.le_of_ble_eq_true rfl) ?_
    exact W.iret (v := r) hx hb hr (fun t ht hW => ⟨⟨r, (), rfl, trivial, by show PX SX Γ ad q.2.2 t.heap; rw [ht]; exact hB⟩, hS.F ht⟩) hS.2.2 dL_setRate_5 hnl
theorem mw13_38 : MWv RL 38 yX11_setPeacocks cX11_setPeacocks 3 (some .int) 2 := ⟨gw_t (tin6 (List.mem_of_getElem? (i := 93) rfl)) rfl, gw_t (tin6 (List.mem_of_getElem? (i := 94) rfl)) rfl, gw_t (tin6 (List.mem_of_getElem? (i := 95) rfl)) rfl, gw_t (tin1 (List.mem_of_getElem? (i := 1) rfl)) rfl, gw_t (tin6 (List.mem_of_getElem? (i := 96) rfl)) rfl, by decide, by decide, by decide +kernel⟩
theorem mz13_230 : MWz RL 230 yL_setPeacocks cL_setPeacocks 4 (some .int) [(0, 6, 7, 26)] 3 := ⟨gw_t (tin6 (List.mem_of_getElem? (i := 90) rfl)) rfl, gw_t (tin6 (List.mem_of_getElem? (i := 91) rfl)) rfl, gw_t (tin1 (List.mem_of_getElem? (i := 0) rfl)) rfl, gw_t (tin6 (List.mem_of_getElem? (i := 92) rfl)) rfl, by decide, by decide, by decide +kernel⟩
set_option maxHeartbeats 4000000 in
set_option maxRecDepth 100000 in
theorem wx_setPeacocks (l : Launch) (hst : l.stackTraces = false) (Γ : Wc) (ad : Nat → Nat → Nat) (A : Nat → Prop) (p1 p2 : Int32) (σ : Sig) (q : Xe) (hF : f11_setPeacocks p1 p2 σ = some q) (hq : q.1 = 0 ∨ q.1 = 1) : MWx l Γ ad A yL_setPeacocks cL_setPeacocks 4 [(0, 6, 7, 26)] 8 134 2 [.ref (ad 0 0), .int p1, .int p2] σ q.2.2 := by
  refine va_MetW (cc := cL_setPeacocks) (maxL := 4) (ret := some .int) (hh := [(0, 6, 7, 26)]) (by decide) rfl ?_
  intro p e s m args below meth c s₁ B hml hv
  obtain ⟨rfl, ⟨hP, hK, hA, hZ, hV⟩, hNC⟩ := hv
  have hx := B.exec
  have hb := B.bytes
  have hr := B.returns
  have hnl := B.notSynchronized
  have hts := atoms_spec (ws := .codeWith yL_setPeacocks cL_setPeacocks 4 (some .int) [(0, 6, 7, 26)] :: gw) B.pre
  have htg : ∀ w ∈ gw, w.before _ s = true := fun w h => hts w (List.mem_cons_of_mem _ h)
  have hown : s.vm.findClass RL = some m.cls := findClass_of_methodNamed B.named
  have htab := vx_table (x := yL_setPeacocks) B (hts _ List.mem_cons_self)
  have cx : CX SX Γ ad A RL cL_setPeacocks 4 p s m _ c := ⟨hx, hb, hml, hown, htg, hK, hA, hZ, hV⟩
  have hPS : PS SX Γ ad A s σ s.heap [] := ⟨hP, va_S.rf⟩
  have hS : va_S A s.heap s.heap [] := va_S.rf
  have hl := lv_entry ([.ref (ad 0 0), .int p1, .int p2]) (n := 4) (Nat.le_of_ble_eq_true rfl)
  rw [lg_entry_eq]
  generalize (lg_sl ([.ref (ad 0 0), .int p1, .int p2]) ++ List.replicate (4 - (lg_sl ([.ref (ad 0 0), .int p1, .int p2])).length) Slot.unset).toArray = ls at hl ⊢
  have hl : lv_has ls 4 [(0, .ref (ad 0 0)), (1, .int p1), (2, .int p2)] := hl
  refine lv_aload_n hx hb dL_setPeacocks_0 rfl (lv_at hl 0 rfl) ?_
  refine lv_iload_n hx hb dL_setPeacocks_1 rfl (lv_at hl 1 rfl) ?_
  refine lv_iload_n hx hb dL_setPeacocks_2 rfl (lv_at hl 2 rfl) ?_
  refine vx_calli (vx_runV (As := [.int p1, .int p2]) (rest := []) (fixOf cx) (w11_setPeacocks l hst Γ ad A p1 p2 σ q hF) (mw13_38.callB cx ⟨Nat.le_of_ble_eq_true rfl, Nat.le_of_ble_eq_true rfl⟩) ⟨Pre.blind, recvOf cx hPS (dXr (by decide)) rfl rfl, fun U hU hW => ⟨rfl, cx.pre hPS hU hW⟩⟩ rfl rfl hl.1 rfl (lv_room (Nat.le_of_ble_eq_true rfl)) dL_setPeacocks_3 ⟨Nat.le_of_ble_eq_true rfl, Nat.le_of_ble_eq_true rfl⟩) hS (fun q _ h => h) (fun q h => h) (fun q _ h => h) (fun E ce q9 u t H1 locs1 ht hvm hu hb' hz hf' hS hce hcv hcl => ?_) (fun r u t H1 locs1 ht hvm hw hB hz1 hk1 hS => ?_)
  · obtain ⟨hE, hB⟩ := hb'
    rw [ht] at hB
    have hu0 : q.1 ≠ 0 := hu
    refine vx_widen (k := 2) (n := 12) (Nat.le_of_ble_eq_true rfl) (Nat.le_of_ble_eq_true rfl) ?_
    rcases hq with h | h
    · exact absurd h hu0
    · rw [h] at hE
      cases hE
      refine vx_catch hown [] _ _ htab (fun z hz => nomatch hz) (by decide) (by decide) (htg (.classLink RL 26 "java/lang/IllegalArgumentException") (gw_t (tin5 (List.mem_of_getElem? (i := 80) rfl)) rfl)) (va_Nw.use rfl (hV.1 _ (List.mem_filter.mpr ⟨(tin5 (List.mem_of_getElem? (i := 96) rfl)), rfl⟩))) hce hcv hcl ?_
      refine lv_astore_n (lv' := [(3, .ref q9), (0, .ref (ad 0 0)), (1, .int p1), (2, .int p2)]) hx hb dL_setPeacocks_7 rfl hl (by decide) rfl (fun ls hl => ?_)
      refine lv_sipush (v := -7777) hx hb dL_setPeacocks_8 (by decide) ?_
      exact W.iret (v := -7777) hx hb hr (fun t ht hW => ⟨⟨-7777, (), rfl, trivial, by show PX SX Γ ad q.2.2 t.heap; rw [ht]; exact hB⟩, hS.F ht⟩) hS.2.2 dL_setPeacocks_11 hnl
  · rw [ht] at hB
    refine W.widen (k := 2) (n := 12) (Nat.le_of_ble_eq_true rfl) (Nat.le_of_ble_eq_true rfl) ?_
    exact W.iret (v := r) hx hb hr (fun t ht hW => ⟨⟨r, (), rfl, trivial, by show PX SX Γ ad q.2.2 t.heap; rw [ht]; exact hB⟩, hS.F ht⟩) hS.2.2 dL_setPeacocks_6 hnl
theorem mw13_41 : MWv RL 41 yX11_setPause cX11_setPause 3 (some .int) 1 := ⟨gw_t (tin6 (List.mem_of_getElem? (i := 106) rfl)) rfl, gw_t (tin6 (List.mem_of_getElem? (i := 107) rfl)) rfl, gw_t (tin6 (List.mem_of_getElem? (i := 108) rfl)) rfl, gw_t (tin1 (List.mem_of_getElem? (i := 1) rfl)) rfl, gw_t (tin6 (List.mem_of_getElem? (i := 109) rfl)) rfl, by decide, by decide, by decide +kernel⟩
theorem mz13_232 : MWz RL 232 yL_setPause cL_setPause 3 (some .int) [(0, 5, 6, 26)] 2 := ⟨gw_t (tin6 (List.mem_of_getElem? (i := 103) rfl)) rfl, gw_t (tin6 (List.mem_of_getElem? (i := 104) rfl)) rfl, gw_t (tin1 (List.mem_of_getElem? (i := 0) rfl)) rfl, gw_t (tin6 (List.mem_of_getElem? (i := 105) rfl)) rfl, by decide, by decide, by decide +kernel⟩
set_option maxHeartbeats 4000000 in
set_option maxRecDepth 100000 in
theorem wx_setPause (l : Launch) (hst : l.stackTraces = false) (Γ : Wc) (ad : Nat → Nat → Nat) (A : Nat → Prop) (p1 : Int32) (σ : Sig) (q : Xe) (hF : f11_setPause p1 σ = some q) (hq : q.1 = 0 ∨ q.1 = 1) : MWx l Γ ad A yL_setPause cL_setPause 3 [(0, 5, 6, 26)] 8 134 1 [.ref (ad 0 0), .int p1] σ q.2.2 := by
  refine va_MetW (cc := cL_setPause) (maxL := 3) (ret := some .int) (hh := [(0, 5, 6, 26)]) (by decide) rfl ?_
  intro p e s m args below meth c s₁ B hml hv
  obtain ⟨rfl, ⟨hP, hK, hA, hZ, hV⟩, hNC⟩ := hv
  have hx := B.exec
  have hb := B.bytes
  have hr := B.returns
  have hnl := B.notSynchronized
  have hts := atoms_spec (ws := .codeWith yL_setPause cL_setPause 3 (some .int) [(0, 5, 6, 26)] :: gw) B.pre
  have htg : ∀ w ∈ gw, w.before _ s = true := fun w h => hts w (List.mem_cons_of_mem _ h)
  have hown : s.vm.findClass RL = some m.cls := findClass_of_methodNamed B.named
  have htab := vx_table (x := yL_setPause) B (hts _ List.mem_cons_self)
  have cx : CX SX Γ ad A RL cL_setPause 3 p s m _ c := ⟨hx, hb, hml, hown, htg, hK, hA, hZ, hV⟩
  have hPS : PS SX Γ ad A s σ s.heap [] := ⟨hP, va_S.rf⟩
  have hS : va_S A s.heap s.heap [] := va_S.rf
  have hl := lv_entry ([.ref (ad 0 0), .int p1]) (n := 3) (Nat.le_of_ble_eq_true rfl)
  rw [lg_entry_eq]
  generalize (lg_sl ([.ref (ad 0 0), .int p1]) ++ List.replicate (3 - (lg_sl ([.ref (ad 0 0), .int p1])).length) Slot.unset).toArray = ls at hl ⊢
  have hl : lv_has ls 3 [(0, .ref (ad 0 0)), (1, .int p1)] := hl
  refine lv_aload_n hx hb dL_setPause_0 rfl (lv_at hl 0 rfl) ?_
  refine lv_iload_n hx hb dL_setPause_1 rfl (lv_at hl 1 rfl) ?_
  refine vx_calli (vx_runV (As := [.int p1]) (rest := []) (fixOf cx) (w11_setPause l hst Γ ad A p1 σ q hF) (mw13_41.callB cx ⟨Nat.le_of_ble_eq_true rfl, Nat.le_of_ble_eq_true rfl⟩) ⟨Pre.blind, recvOf cx hPS (dXr (by decide)) rfl rfl, fun U hU hW => ⟨rfl, cx.pre hPS hU hW⟩⟩ rfl rfl hl.1 rfl (lv_room (Nat.le_of_ble_eq_true rfl)) dL_setPause_2 ⟨Nat.le_of_ble_eq_true rfl, Nat.le_of_ble_eq_true rfl⟩) hS (fun q _ h => h) (fun q h => h) (fun q _ h => h) (fun E ce q9 u t H1 locs1 ht hvm hu hb' hz hf' hS hce hcv hcl => ?_) (fun r u t H1 locs1 ht hvm hw hB hz1 hk1 hS => ?_)
  · obtain ⟨hE, hB⟩ := hb'
    rw [ht] at hB
    have hu0 : q.1 ≠ 0 := hu
    refine vx_widen (k := 1) (n := 6) (Nat.le_of_ble_eq_true rfl) (Nat.le_of_ble_eq_true rfl) ?_
    rcases hq with h | h
    · exact absurd h hu0
    · rw [h] at hE
      cases hE
      refine vx_catch hown [] _ _ htab (fun z hz => nomatch hz) (by decide) (by decide) (htg (.classLink RL 26 "java/lang/IllegalArgumentException") (gw_t (tin5 (List.mem_of_getElem? (i := 80) rfl)) rfl)) (va_Nw.use rfl (hV.1 _ (List.mem_filter.mpr ⟨(tin5 (List.mem_of_getElem? (i := 96) rfl)), rfl⟩))) hce hcv hcl ?_
      refine lv_astore_n (lv' := [(2, .ref q9), (0, .ref (ad 0 0)), (1, .int p1)]) hx hb dL_setPause_6 rfl hl (by decide) rfl (fun ls hl => ?_)
      refine lv_sipush (v := -7777) hx hb dL_setPause_7 (by decide) ?_
      exact W.iret (v := -7777) hx hb hr (fun t ht hW => ⟨⟨-7777, (), rfl, trivial, by show PX SX Γ ad q.2.2 t.heap; rw [ht]; exact hB⟩, hS.F ht⟩) hS.2.2 dL_setPause_10 hnl
  · rw [ht] at hB
    refine W.widen (k := 1) (n := 6) (Nat.le_of_ble_eq_true rfl) (Nat.le_of_ble_eq_true rfl) ?_
    exact W.iret (v := r) hx hb hr (fun t ht hW => ⟨⟨r, (), rfl, trivial, by show PX SX Γ ad q.2.2 t.heap; rw [ht]; exact hB⟩, hS.F ht⟩) hS.2.2 dL_setPause_5 hnl
theorem mw13_32 : MWv RL 32 yX11_layBed cX11_layBed 5 (some .int) 4 := ⟨gw_t (tin6 (List.mem_of_getElem? (i := 114) rfl)) rfl, gw_t (tin6 (List.mem_of_getElem? (i := 115) rfl)) rfl, gw_t (tin6 (List.mem_of_getElem? (i := 116) rfl)) rfl, gw_t (tin1 (List.mem_of_getElem? (i := 1) rfl)) rfl, gw_t (tin6 (List.mem_of_getElem? (i := 117) rfl)) rfl, by decide, by decide, by decide +kernel⟩
theorem mz13_237 : MWz RL 237 yL_layBed cL_layBed 6 (some .int) [(0, 9, 10, 24), (0, 9, 16, 26), (0, 9, 22, 36)] 5 := ⟨gw_t (tin6 (List.mem_of_getElem? (i := 111) rfl)) rfl, gw_t (tin6 (List.mem_of_getElem? (i := 112) rfl)) rfl, gw_t (tin1 (List.mem_of_getElem? (i := 0) rfl)) rfl, gw_t (tin6 (List.mem_of_getElem? (i := 113) rfl)) rfl, by decide, by decide, by decide +kernel⟩
set_option maxHeartbeats 4000000 in
set_option maxRecDepth 100000 in
theorem wx_layBed (l : Launch) (hst : l.stackTraces = false) (Γ : Wc) (ad : Nat → Nat → Nat) (A : Nat → Prop) (p1 p2 p3 p4 : Int32) (σ : Sig) (q : Xe) (hF : f11_layBed p1 p2 p3 p4 σ = some q) (hq : q.1 = 0 ∨ q.1 = 2 ∨ q.1 = 1 ∨ q.1 = 3) : MWx l Γ ad A yL_layBed cL_layBed 6 [(0, 9, 10, 24), (0, 9, 16, 26), (0, 9, 22, 36)] 8 136 5 [.ref (ad 0 0), .int p1, .int p2, .int p3, .int p4] σ q.2.2 := by
  refine va_MetW (cc := cL_layBed) (maxL := 6) (ret := some .int) (hh := [(0, 9, 10, 24), (0, 9, 16, 26), (0, 9, 22, 36)]) (by decide) rfl ?_
  intro p e s m args below meth c s₁ B hml hv
  obtain ⟨rfl, ⟨hP, hK, hA, hZ, hV⟩, hNC⟩ := hv
  have hx := B.exec
  have hb := B.bytes
  have hr := B.returns
  have hnl := B.notSynchronized
  have hts := atoms_spec (ws := .codeWith yL_layBed cL_layBed 6 (some .int) [(0, 9, 10, 24), (0, 9, 16, 26), (0, 9, 22, 36)] :: gw) B.pre
  have htg : ∀ w ∈ gw, w.before _ s = true := fun w h => hts w (List.mem_cons_of_mem _ h)
  have hown : s.vm.findClass RL = some m.cls := findClass_of_methodNamed B.named
  have htab := vx_table (x := yL_layBed) B (hts _ List.mem_cons_self)
  have cx : CX SX Γ ad A RL cL_layBed 6 p s m _ c := ⟨hx, hb, hml, hown, htg, hK, hA, hZ, hV⟩
  have hPS : PS SX Γ ad A s σ s.heap [] := ⟨hP, va_S.rf⟩
  have hS : va_S A s.heap s.heap [] := va_S.rf
  have hl := lv_entry ([.ref (ad 0 0), .int p1, .int p2, .int p3, .int p4]) (n := 6) (Nat.le_of_ble_eq_true rfl)
  rw [lg_entry_eq]
  generalize (lg_sl ([.ref (ad 0 0), .int p1, .int p2, .int p3, .int p4]) ++ List.replicate (6 - (lg_sl ([.ref (ad 0 0), .int p1, .int p2, .int p3, .int p4])).length) Slot.unset).toArray = ls at hl ⊢
  have hl : lv_has ls 6 [(0, .ref (ad 0 0)), (1, .int p1), (2, .int p2), (3, .int p3), (4, .int p4)] := hl
  refine lv_aload_n hx hb dL_layBed_0 rfl (lv_at hl 0 rfl) ?_
  refine lv_iload_n hx hb dL_layBed_1 rfl (lv_at hl 1 rfl) ?_
  refine lv_iload_n hx hb dL_layBed_2 rfl (lv_at hl 2 rfl) ?_
  refine lv_iload_n hx hb dL_layBed_3 rfl (lv_at hl 3 rfl) ?_
  refine lv_iload hx hb dL_layBed_4 (lv_at hl 4 rfl) ?_
  refine vx_calli (vx_runV (As := [.int p1, .int p2, .int p3, .int p4]) (rest := []) (fixOf cx) (w11_layBed l hst Γ ad A p1 p2 p3 p4 σ q hF) (mw13_32.callB cx ⟨Nat.le_of_ble_eq_true rfl, Nat.le_of_ble_eq_true rfl⟩) ⟨Pre.blind, recvOf cx hPS (dXr (by decide)) rfl rfl, fun U hU hW => ⟨rfl, cx.pre hPS hU hW⟩⟩ rfl rfl hl.1 rfl (lv_room (Nat.le_of_ble_eq_true rfl)) dL_layBed_6 ⟨Nat.le_of_ble_eq_true rfl, Nat.le_of_ble_eq_true rfl⟩) hS (fun q _ h => h) (fun q h => h) (fun q _ h => h) (fun E ce q9 u t H1 locs1 ht hvm hu hb' hz hf' hS hce hcv hcl => ?_) (fun r u t H1 locs1 ht hvm hw hB hz1 hk1 hS => ?_)
  · obtain ⟨hE, hB⟩ := hb'
    rw [ht] at hB
    have hu0 : q.1 ≠ 0 := hu
    refine vx_widen (k := 5) (n := 30) (Nat.le_of_ble_eq_true rfl) (Nat.le_of_ble_eq_true rfl) ?_
    rcases hq with h | h | h | h
    · exact absurd h hu0
    · rw [h] at hE
      cases hE
      refine vx_catch hown [] _ _ htab (fun z hz => nomatch hz) (by decide) (by decide) (htg (.classLink RL 24 "java/lang/IndexOutOfBoundsException") (gw_t (tin5 (List.mem_of_getElem? (i := 185) rfl)) rfl)) (va_Nw.use rfl (hV.1 _ (List.mem_filter.mpr ⟨(tin5 (List.mem_of_getElem? (i := 197) rfl)), rfl⟩))) hce hcv hcl ?_
      refine lv_astore (lv' := [(5, .ref q9), (0, .ref (ad 0 0)), (1, .int p1), (2, .int p2), (3, .int p3), (4, .int p4)]) hx hb dL_layBed_10 hl (by decide) rfl (fun ls hl => ?_)
      refine lv_sipush (v := -7777) hx hb dL_layBed_12 (by decide) ?_
      exact W.iret (v := -7777) hx hb hr (fun t ht hW => ⟨⟨-7777, (), rfl, trivial, by show PX SX Γ ad q.2.2 t.heap; rw [ht]; exact hB⟩, hS.F ht⟩) hS.2.2 dL_layBed_15 hnl
    · rw [h] at hE
      cases hE
      refine vx_catch hown [_] _ _ htab (fun z hz => Or.inr ⟨by rw [List.mem_singleton.mp hz]; decide, "java/lang/IndexOutOfBoundsException", by rw [List.mem_singleton.mp hz]; exact htg (.classLink RL 24 "java/lang/IndexOutOfBoundsException") (gw_t (tin5 (List.mem_of_getElem? (i := 185) rfl)) rfl), hNC 1 (by decide) (by decide) 2 (by decide) (by decide) (by decide)⟩) (by decide) (by decide) (htg (.classLink RL 26 "java/lang/IllegalArgumentException") (gw_t (tin5 (List.mem_of_getElem? (i := 80) rfl)) rfl)) (va_Nw.use rfl (hV.1 _ (List.mem_filter.mpr ⟨(tin5 (List.mem_of_getElem? (i := 96) rfl)), rfl⟩))) hce hcv hcl ?_
      refine lv_astore (lv' := [(5, .ref q9), (0, .ref (ad 0 0)), (1, .int p1), (2, .int p2), (3, .int p3), (4, .int p4)]) hx hb dL_layBed_16 hl (by decide) rfl (fun ls hl => ?_)
      refine lv_sipush (v := -7777) hx hb dL_layBed_18 (by decide) ?_
      exact W.iret (v := -7777) hx hb hr (fun t ht hW => ⟨⟨-7777, (), rfl, trivial, by show PX SX Γ ad q.2.2 t.heap; rw [ht]; exact hB⟩, hS.F ht⟩) hS.2.2 dL_layBed_21 hnl
    · rw [h] at hE
      cases hE
      refine vx_catch hown [_, _] _ _ htab (fun z hz => (List.mem_cons.mp hz).elim (fun e9 => Or.inr ⟨by subst e9; decide, "java/lang/IndexOutOfBoundsException", by subst e9; exact htg (.classLink RL 24 "java/lang/IndexOutOfBoundsException") (gw_t (tin5 (List.mem_of_getElem? (i := 185) rfl)) rfl), hNC 3 (by decide) (by decide) 2 (by decide) (by decide) (by decide)⟩) (fun hz => (fun e9 => Or.inr ⟨by subst e9; decide, "java/lang/IllegalArgumentException", by subst e9; exact htg (.classLink RL 26 "java/lang/IllegalArgumentException") (gw_t (tin5 (List.mem_of_getElem? (i := 80) rfl)) rfl), hNC 3 (by decide) (by decide) 1 (by decide) (by decide) (by decide)⟩) (List.mem_singleton.mp hz))) (by decide) (by decide) (htg (.classLink RL 36 "java/lang/IllegalStateException") (gw_t (tin5 (List.mem_of_getElem? (i := 81) rfl)) rfl)) (va_Nw.use rfl (hV.1 _ (List.mem_filter.mpr ⟨(tin5 (List.mem_of_getElem? (i := 167) rfl)), rfl⟩))) hce hcv hcl ?_
      refine lv_astore (lv' := [(5, .ref q9), (0, .ref (ad 0 0)), (1, .int p1), (2, .int p2), (3, .int p3), (4, .int p4)]) hx hb dL_layBed_22 hl (by decide) rfl (fun ls hl => ?_)
      refine lv_sipush (v := -7777) hx hb dL_layBed_24 (by decide) ?_
      exact W.iret (v := -7777) hx hb hr (fun t ht hW => ⟨⟨-7777, (), rfl, trivial, by show PX SX Γ ad q.2.2 t.heap; rw [ht]; exact hB⟩, hS.F ht⟩) hS.2.2 dL_layBed_27 hnl
  · rw [ht] at hB
    refine W.widen (k := 5) (n := 30) (Nat.le_of_ble_eq_true rfl) (Nat.le_of_ble_eq_true rfl) ?_
    exact W.iret (v := r) hx hb hr (fun t ht hW => ⟨⟨r, (), rfl, trivial, by show PX SX Γ ad q.2.2 t.heap; rw [ht]; exact hB⟩, hS.F ht⟩) hS.2.2 dL_layBed_9 hnl
