/-! printed: the law's wrappers -/
def AXs (ad : Nat → Nat → Nat) : Nat → Prop := fun z => ∃ g c, dX g c ∧ z = ad g c
/-- no exception of the class's is another's kind -/
def NC (U : State) : Prop := ∀ i, 1 ≤ i → i ≤ 4 → ∀ j, 1 ≤ j → j ≤ 4 → ¬ i = j → va_Nc (exN i) (exN j) U
theorem NC.moved {u U : State} (hvm : u.vm.Alike U.vm) (h : NC u) : NC U := fun i h1 h2 j h3 h4 h5 => (h i h1 h2 j h3 h4 h5).moved hvm
abbrev oC (Γ : Wc) (o : Nat) (f : Nat → Int64) : Nat × va_E := (o, .inl (Γ.2.1 5, 1, .inr (.inl f)))
theorem out_put {Γ : Wc} {o : Nat} {f : Nat → Int64} {x : Int64} {H : Heap} (e : H[o]? = some ((vp_cell (Γ.2.1 5) (1, .inr (.inl f))).setSlot (0 : Int32).toNatClampNeg (.long x))) : va_at Γ.1 vwCl (oC Γ o (vp_updL f 0 x)) H := by
  show H[o]? = some (vp_cell _ _)
  rw [e]
  rw [vp_cell_l, vp_cell_l, arrV_store]
  congr 2
  funext q
  by_cases hq : q = 0
  · subst hq
    rfl
  · unfold updV vp_updL
    rw [if_neg hq, if_neg (by exact hq)]
/-- a wrapper of a call that may throw: it answers 0 and leaves the answer in out, or it answers which exception it was -/
def MWr (l : Launch) (Γ : Wc) (ad : Nat → Nat → Nat) (o : Nat) (y : MethodName) (cc : ByteArray) (nL : Nat) (hh : List (Nat × Nat × Nat × Nat)) (fr lo k : Nat) (av : List Value) (σ : Sig) (q : Xe) (ls : List Nat) : Prop :=
  vx_Met l y (.codeWith y cc nL (some .int) hh :: gw) (rmx fr lo k) (va_Pc av (fun U => Pre SX Γ ad (AXs ad) σ U ∧ (∃ f, va_at Γ.1 vwCl (oC Γ o f) U.heap) ∧ ¬ AXs ad o ∧ NC U))
    (va_Qi (fun r (_ : Unit) => (q.1 = 0 ∧ r = 0) ∨ ∃ i : Nat, ls[i]? = some q.1 ∧ ¬ q.1 = 0 ∧ r = Int32.ofNat (i + 1)) (fun _ t => PX SX Γ ad q.2.2 t.heap ∧ ∃ f, va_at Γ.1 vwCl (oC Γ o f) t.heap ∧ (q.1 = 0 → f 0 = q.2.1.toInt64)) (fun z => AXs ad z ∨ z = o)) (fun _ _ _ => False) k (6 * k) (fun z => AXs ad z ∨ z = o)
theorem mwL_15 : MWv RL 15 yX11_setPrice cX11_setPrice 4 (some .int) 2 := ⟨gw_t (tin5 (List.mem_of_getElem? (i := 88) rfl)) rfl, gw_t (tin5 (List.mem_of_getElem? (i := 89) rfl)) rfl, gw_t (tin5 (List.mem_of_getElem? (i := 90) rfl)) rfl, gw_t (tin1 (List.mem_of_getElem? (i := 1) rfl)) rfl, gw_t (tin5 (List.mem_of_getElem? (i := 91) rfl)) rfl, by decide, by decide, by decide +kernel⟩
set_option maxHeartbeats 4000000 in
set_option maxRecDepth 100000 in
theorem wL_setPrice (l : Launch) (hst : l.stackTraces = false) (Γ : Wc) (ad : Nat → Nat → Nat) (o : Nat) (p1 p2 : Int32) (σ : Sig) (q : Xe) (hF : f11_setPrice p1 p2 σ = some q) (hq : q.1 = 0 ∨ q.1 = 2 ∨ q.1 = 1) : MWr l Γ ad o yL_setPrice cL_setPrice 5 [(0, 10, 13, 19), (0, 10, 17, 13)] 8 140 2 [.ref (ad 0 0), .int p1, .int p2, .ref o] σ q [2, 1] := by
  refine vx_ofWH (by decide) rfl ?_
  intro p e s m args below meth c s₁ B hml hv
  obtain ⟨rfl, ⟨hP, hK, hA, hZ, hV⟩, ⟨f, hf⟩, ho, hNC⟩ := hv
  have hx := B.exec
  have hb := B.bytes
  have hr := B.returns
  have hnl := B.notSynchronized
  have hts := atoms_spec (ws := .codeWith yL_setPrice cL_setPrice 5 (some .int) [(0, 10, 13, 19), (0, 10, 17, 13)] :: gw) B.pre
  have htg : ∀ w ∈ gw, w.before _ s = true := fun w h => hts w (List.mem_cons_of_mem _ h)
  have hown : s.vm.findClass RL = some m.cls := findClass_of_methodNamed B.named
  have htab := vx_table (x := yL_setPrice) B (hts _ List.mem_cons_self)
  have cx : CX SX Γ ad (AXs ad) RL cL_setPrice 5 p s m _ c := ⟨hx, hb, hml, hown, htg, hK, hA, hZ, hV⟩
  have hPS : PS SX Γ ad (AXs ad) s σ s.heap [] := ⟨hP, va_S.rf⟩
  have hS : va_S (fun z => AXs ad z ∨ z = o) s.heap s.heap [] := va_S.rf
  have hl := lv_entry ([.ref (ad 0 0), .int p1, .int p2, .ref o]) (n := 5) (Nat.le_of_ble_eq_true rfl)
  rw [lg_entry_eq]
  generalize (lg_sl ([.ref (ad 0 0), .int p1, .int p2, .ref o]) ++ List.replicate (5 - (lg_sl ([.ref (ad 0 0), .int p1, .int p2, .ref o])).length) Slot.unset).toArray = ls at hl ⊢
  have hl : lv_has ls 5 [(0, .ref (ad 0 0)), (1, .int p1), (2, .int p2), (3, .ref o)] := hl
  refine lv_aload_n hx hb dL_setPrice_0 rfl (lv_at hl 3 rfl) ?_
  refine lv_iconst (v := 0) hx hb dL_setPrice_1 (by decide) ?_
  refine lv_aload_n hx hb dL_setPrice_2 rfl (lv_at hl 0 rfl) ?_
  refine lv_iload_n hx hb dL_setPrice_3 rfl (lv_at hl 1 rfl) ?_
  refine lv_iload_n hx hb dL_setPrice_4 rfl (lv_at hl 2 rfl) ?_
  refine vx_calli (vx_runV (As := [.int p1, .int p2]) (rest := [.int 0, .ref o]) (fixOf cx) (w11_setPrice l hst Γ ad (AXs ad) p1 p2 σ q hF) (mwL_15.callB cx ⟨Nat.le_of_ble_eq_true rfl, Nat.le_of_ble_eq_true rfl⟩) ⟨Pre.blind, recvOf cx hPS (dXr (by decide)) rfl rfl, fun U hU hW => ⟨rfl, cx.pre hPS hU hW⟩⟩ rfl rfl hl.1 rfl (lv_room (Nat.le_of_ble_eq_true rfl)) dL_setPrice_5 ⟨Nat.le_of_ble_eq_true rfl, Nat.le_of_ble_eq_true rfl⟩) hS (fun q _ h => Or.inl h) (fun q h => Or.inl h) (fun q _ h => Or.inl h) (fun E ce q9 u t H1 locs1 ht hvm hu hb' hz hf' hS hce hcv hcl => ?_) (fun r u t H1 locs1 ht hvm hw hB hz1 hk1 hS => ?_)
  · have ho1 := hf.kept (by rw [hf' o hf.lt ho])
    obtain ⟨hE, hB⟩ := hb'
    rw [ht] at hB
    have hu0 : q.1 ≠ 0 := hu
    refine vx_widen (k := 2) (n := 12) (Nat.le_of_ble_eq_true rfl) (Nat.le_of_ble_eq_true rfl) ?_
    rcases hq with h | h | h
    · exact absurd h hu0
    · rw [h] at hE
      cases hE
      refine vx_catch hown [] _ _ htab (fun z hz => nomatch hz) (by decide) (by decide) (htg (.classLink RL 19 "java/lang/IndexOutOfBoundsException") (gw_t (tin5 (List.mem_of_getElem? (i := 87) rfl)) rfl)) (va_Nw.use rfl (hV.1 _ (List.mem_filter.mpr ⟨(tin5 (List.mem_of_getElem? (i := 102) rfl)), rfl⟩))) hce hcv hcl ?_
      refine lv_astore (lv' := [(4, .ref q9), (0, .ref (ad 0 0)), (1, .int p1), (2, .int p2), (3, .ref o)]) hx hb dL_setPrice_13 hl (by decide) rfl (fun ls hl => ?_)
      refine lv_iconst (v := 1) hx hb dL_setPrice_15 (by decide) ?_
      refine vx_ret ?_
      exact W.iret (v := 1) hx hb hr (fun t ht hW => ⟨⟨1, (), rfl, Or.inr ⟨0, by rw [h]; rfl, hu0, rfl⟩, by rw [ht]; exact hB, f, by rw [ht]; exact ho1, fun e => absurd e hu0⟩, hS.F ht⟩) hS.2.2 dL_setPrice_16
    · rw [h] at hE
      cases hE
      refine vx_catch hown [_] _ _ htab (fun z hz => Or.inr ⟨?_, "java/lang/IndexOutOfBoundsException", ?_, hNC 1 (by decide) (by decide) 2 (by decide) (by decide) (by decide)⟩) (by decide) (by decide) (htg (.classLink RL 13 "java/lang/IllegalArgumentException") (gw_t (tin5 (List.mem_of_getElem? (i := 8) rfl)) rfl)) (va_Nw.use rfl (hV.1 _ (List.mem_filter.mpr ⟨(tin5 (List.mem_of_getElem? (i := 18) rfl)), rfl⟩))) hce hcv hcl ?_
      · rw [List.mem_singleton.mp hz]; decide
      · rw [List.mem_singleton.mp hz]; exact htg (.classLink RL 19 "java/lang/IndexOutOfBoundsException") (gw_t (tin5 (List.mem_of_getElem? (i := 87) rfl)) rfl)
      refine lv_astore (lv' := [(4, .ref q9), (0, .ref (ad 0 0)), (1, .int p1), (2, .int p2), (3, .ref o)]) hx hb dL_setPrice_17 hl (by decide) rfl (fun ls hl => ?_)
      refine lv_iconst (v := 2) hx hb dL_setPrice_19 (by decide) ?_
      refine vx_ret ?_
      exact W.iret (v := 2) hx hb hr (fun t ht hW => ⟨⟨2, (), rfl, Or.inr ⟨1, by rw [h]; rfl, hu0, rfl⟩, by rw [ht]; exact hB, f, by rw [ht]; exact ho1, fun e => absurd e hu0⟩, hS.F ht⟩) hS.2.2 dL_setPrice_20
  · obtain ⟨hq0, rfl⟩ := hw
    rw [ht] at hB
    have ho1 := hf.kept (hk1 o hf.lt ho)
    refine lv_i2l hx hb dL_setPrice_8 rfl ?_
    refine W.last hx hb ho1 ((hK.2 5 _ rfl).1 1 (fun j => .long (f j))) (fun q => by cases q) (by show ¬ ((0 : Int32) < 0 ∨ (arrV _ _ _).slots.size ≤ _); rw [arrV_size]; exact (by unfold vp_in; decide : vp_in 0 1)) rfl rfl dL_setPrice_9 fun H2 e2 z oq => ?_
    have hno : ∀ g c, dX g c → ad g c ≠ o := fun g c hd e => ho ⟨g, c, hd, e.symm⟩
    have hP2 : PX SX Γ ad q.2.2 H2 := fun g c hd => (hB g c hd).kept (oq _ (hno g c hd))
    have ho2 : va_at Γ.1 vwCl (oC Γ o (vp_updL f 0 q.2.1.toInt64)) H2 := out_put e2
    have hS2 := hS.put (k := (0 : Int32).toNatClampNeg) z oq (Or.inr rfl : (fun z => AXs ad z ∨ z = o) o)
    refine W.eq (g2 := F0 m 10 ls []) rfl ?_
    refine lv_goto (tgt := 21) hx hb dL_setPrice_10 (by decide) ?_
    refine lv_iconst (v := 0) hx hb dL_setPrice_21 (by decide) ?_
    refine W.widen (k := 2) (n := 12) (Nat.le_of_ble_eq_true rfl) (Nat.le_of_ble_eq_true rfl) ?_
    refine vx_ret ?_
    exact W.iret (v := 0) hx hb hr (fun t ht hW => ⟨⟨0, (), rfl, Or.inl ⟨hq0, rfl⟩, by rw [ht]; exact hP2, _, by rw [ht]; exact ho2, fun _ => by unfold vp_updL; exact if_pos rfl⟩, hS2.F ht⟩) hS2.2.2 dL_setPrice_22
