/-! StringBuilder, AbstractStringBuilder, as the JDK's code: the frame -/
abbrev AN (N : Nat) : Nat → Prop := fun q => N ≤ q
/-- the builder's cells: the object b, its bytes -/
abbrev wB (K : Nat → ClassId) (b v m : Nat) (ml n : Int32) (a : Nat → Int32) : va_W := [(b, .inr (12, [.ref v, .int 0, .int ml, .int n])), (v, .inl (K 2, m, .inl a))]
/-- the rows of digits that Integer has -/
def DG (A : Nat → Prop) (U : State) (H : Heap) : Prop := ∃ o1 o2 : Nat, va_Z "java/lang/Integer" "DigitOnes" "[B" (.ref o1) A U H ∧ va_T .byte o1 100 (fun j => .int (nI (48 + j % 10))) A U H ∧ va_Z "java/lang/Integer" "DigitTens" "[B" (.ref o2) A U H ∧ va_T .byte o2 100 (fun j => .int (nI (48 + j / 10))) A U H
theorem DG.moved {A : Nat → Prop} {u U : State} {H : Heap} (hvm : u.vm.Alike U.vm) (h : DG A u H) : DG A U H := by
  obtain ⟨o1, o2, h1, h2, h3, h4⟩ := h
  exact ⟨o1, o2, h1.moved hvm, h2.moved hvm, h3.moved hvm, h4.moved hvm⟩
theorem DG.kept {A : Nat → Prop} {U : State} {H H1 : Heap} (h : DG A U H) (hq : ∀ a : Nat, a < H.size → ¬ A a → H1[a]? = H[a]?) : DG A U H1 := by
  obtain ⟨o1, o2, h1, h2, h3, h4⟩ := h
  exact ⟨o1, o2, h1.kept hq, h2.kept hq, h3.kept hq, h4.kept hq⟩
theorem DG.narrow {A B : Nat → Prop} {U : State} {H : Heap} (h : DG A U H) (hAB : ∀ q, B q → A q) : DG B U H := by
  obtain ⟨o1, o2, h1, h2, h3, h4⟩ := h
  exact ⟨o1, o2, h1.narrow hAB, h2.narrow hAB, h3.narrow hAB, h4.narrow hAB⟩
def PB (Γ : Wc) (N : Nat) (w : va_W) (U : State) : Prop := va_P Γ.1 vwCl w U.heap ∧ va_D (AN N) w ∧ va_K Γ.1 vwCl (tyK Γ.2.1) U ∧ ZH Γ (AN N) U U.heap ∧ ZV Γ U ∧ N ≤ U.heap.size ∧ DG (AN N) U U.heap
theorem PB.blind {Γ : Wc} {N : Nat} {w : va_W} {av : List Value} : FrameBlind (va_Pc av (PB Γ N w)) := fun a U g mk q => ⟨q.1, q.2.1, q.2.2.1, va_K.moved (u := U) (U := U.calling g mk a) (Vm.Alike.refl U.vm) q.2.2.2.1, ZH.moved (u := U) (U := U.calling g mk a) (Vm.Alike.refl U.vm) q.2.2.2.2.1, ZV.same (u := U) (U := U.calling g mk a) rfl q.2.2.2.2.2.1, q.2.2.2.2.2.2.1, DG.moved (u := U) (U := U.calling g mk a) (Vm.Alike.refl U.vm) q.2.2.2.2.2.2.2⟩
/-- a method that answers an int and changes nothing -/
def MBi (l : Launch) (Γ : Wc) (N : Nat) (y : MethodName) (cc : ByteArray) (nL : Nat) (ret : Option FieldType) (fr lo : Nat) (av : List Value) (w : va_W) (r : Int32) : Prop :=
  Met l y (Wsd y cc nL ret) { frames := fr, cells := 0, slots := 0, locals := lo } (va_Pc av (PB Γ N w)) (va_Qi (fun r' (_ : Unit) => r' = r) (fun _ t => va_P Γ.1 vwCl w t.heap) (AN N)) 0 0 (AN N)
def MBv (l : Launch) (Γ : Wc) (N : Nat) (y : MethodName) (cc : ByteArray) (nL : Nat) (fr lo mc ms : Nat) (av : List Value) (w : va_W) (P1 : va_W → Prop) : Prop :=
  Met l y (Wsd y cc nL none) { frames := fr, cells := mc, slots := ms, locals := lo } (va_Pc av (PB Γ N w)) (va_Qv (fun _ : Unit => True) (fun _ t => ∃ w1, P1 w1 ∧ va_P Γ.1 vwCl w1 t.heap ∧ va_D (AN N) w1) (AN N)) mc ms (AN N)
def MBr (l : Launch) (Γ : Wc) (N : Nat) (y : MethodName) (cc : ByteArray) (nL : Nat) (ret : Option FieldType) (fr lo mc ms : Nat) (av : List Value) (w : va_W) (P1 : Nat → va_W → Prop) : Prop :=
  Met l y (Wsd y cc nL ret) { frames := fr, cells := mc, slots := ms, locals := lo } (va_Pc av (PB Γ N w)) (va_Qr (fun _ : Unit => True) (fun _ ra t => ∃ w1, P1 ra w1 ∧ va_P Γ.1 vwCl w1 t.heap ∧ va_D (AN N) w1) (AN N)) mc ms (AN N)
/-- an answer that is an int, the world new -/
def MBw (l : Launch) (Γ : Wc) (N : Nat) (y : MethodName) (cc : ByteArray) (nL : Nat) (fr lo mc ms : Nat) (av : List Value) (w : va_W) (P1 : Int32 → va_W → Prop) : Prop :=
  Met l y (Wsd y cc nL (some .int)) { frames := fr, cells := mc, slots := ms, locals := lo } (va_Pc av (PB Γ N w)) (va_Qi (fun _ (_ : Unit) => True) (fun _ t => ∃ w1 r, P1 r w1 ∧ va_P Γ.1 vwCl w1 t.heap ∧ va_D (AN N) w1) (AN N)) mc ms (AN N)
section FRB
variable {p : Program} {l : Launch} {e : Env} {R : Room} {s : State} {m : MethodId} {args : Array Value} {below : List Frame} {meth : Method} {c : Code} {H : Heap} {locs : List Loc} {cells slots : Nat} {Q : State → Prop}
variable {cc : ByteArray} {pc nL : Nat} {ls : Array Slot} {rest st : List Value} {Γ : Wc} {N : Nat} {own : String} {w : va_W}
/-- what stays over such a method's walk -/
def CBx (Γ : Wc) (N : Nat) (own : String) (cc : ByteArray) (nL : Nat) (p : Program) (s : State) (m : MethodId) (args : Array Value) (c : Code) : Prop := CallFix p m c cc nL s args gw own ∧ va_K Γ.1 vwCl (tyK Γ.2.1) s ∧ ZH Γ (AN N) s s.heap ∧ ZV Γ s ∧ N ≤ s.heap.size ∧ DG (AN N) s s.heap
theorem pbU (cb : CBx Γ N own cc nL p s m args c) (hP : va_P Γ.1 vwCl w H) (hD : va_D (AN N) w) (hS : va_S (AN N) s.heap H locs) {U : State} (hU : U.heap = H) (hW : s.WarmedH U.vm) : PB Γ N w U :=
  ⟨by rw [hU]; exact hP, hD, va_K.moved hW.alike cb.2.1, by rw [hU]; exact (cb.2.2.1.kept hS.2.1).moved hW.alike, cb.2.2.2.1.warm hW, by rw [hU]; exact Nat.le_trans cb.2.2.2.2.1 hS.1, by rw [hU]; exact (cb.2.2.2.2.2.kept hS.2.1).moved hW.alike⟩
/-- a system of no cells: for the methods that only look at String constants -/
def Y0 : Sys := (fun _ _ _ _ _ => .inr (0, []), fun _ _ => False)
theorem preY0 (cb : CBx Γ N own cc nL p s m args c) (hS : va_S (AN N) s.heap H locs) (ad : Nat → Nat → Nat) (σ : Sig) {U : State} (hU : U.heap = H) (hW : s.WarmedH U.vm) : Pre Y0 Γ ad (AN N) σ U :=
  ⟨fun _ _ h => h.elim, va_K.moved hW.alike cb.2.1, ⟨fun _ _ _ _ h => h.elim, fun _ _ h => h.elim⟩, by rw [hU]; exact (cb.2.2.1.kept hS.2.1).moved hW.alike, cb.2.2.2.1.warm hW⟩
theorem strRecv (cb : CBx Γ N own cc nL p s m args c) (hS : va_S (AN N) s.heap H locs) {k : Nat} (hk : k < strN) : ∃ cell : Cell, H[Γ.2.2.1 k]? = some cell ∧ cell.vm.isStatics = false ∧ s.vm.findClass RJ0 = some cell.cls := by
  obtain ⟨cell, h1, h2, h3, -⟩ := (cb.2.2.1.2.2.2.2 k hk).1.kept hS.2.1
  exact ⟨cell, h1, h2, h3⟩
/-- AbstractStringBuilder is a class -/
theorem asb_class (htg : ∀ w ∈ gw, w.before args s = true) : ∃ c k, s.vm.findClass RJ5 = some c ∧ s.vm.classes[c]? = some k ∧ k.isInterface = false := by
  obtain ⟨c, k, r, h1, h2, h3, -⟩ := Cond.sameMethod_found (htg (.sameMethod RJ5 RJ5 "isLatin1" "()Z") (gw_t (tin4 (List.mem_of_getElem? (i := 164) rfl)) rfl))
  exact ⟨c, k, h1, h2, h3⟩
theorem asb_sel (htg : ∀ w ∈ gw, w.before args s = true) {y : MethodName} (hy : y.cls = RJ5) (hp : (Cond.privateMethod y).before args s = true) (hi : Cond.instanceMethod y ∈ gw) : (Cond.selects y.cls y y).before args s = true := by
  obtain ⟨c, k, h1, h2, h3⟩ := asb_class htg
  exact selects_self_of_private (by rw [hy]; exact h1) h2 h3 (Cond.privateMethod_at hp) (htg _ hi) (by rw [hy]; decide)
theorem asb_same (htg : ∀ w ∈ gw, w.before args s = true) {y : MethodName} (hy : y.cls = RJ5) (hi : Cond.instanceMethod y ∈ gw) : (Cond.sameMethod y.cls y.cls y.name y.desc).before args s = true := by
  obtain ⟨c, k, h1, h2, h3⟩ := asb_class htg
  obtain ⟨mk, methM, hnamed, hmethM, -, -⟩ := Cond.instanceMethod_spec (htg _ hi)
  have hfound : s.methodFound? y.cls y.name y.desc = some mk := State.methodFound?_of_named hnamed (by rw [hy]; decide)
  have h1' : s.vm.findClass y.cls = some c := by rw [hy]; exact h1
  have hn : s.methodNamed? ⟨y.cls, y.name, y.desc⟩ = some mk := hnamed
  simp only [Cond.before, Cond.holds, Cond.value, h1', hfound, hn, h2]
  simp
  exact h3
/-- the words of a private method's call, of a super call, of an inherited method's -/
def MWp (own : String) (index : Nat) (y : MethodName) (bytes : ByteArray) (maxL : Nat) (ret : Option FieldType) (n : Nat) : Prop := Cond.methodLink own index y ∈ gw ∧ Cond.privateMethod y ∈ nb ∧ Cond.instanceMethod y ∈ gw ∧ Cond.initialized y.cls ∈ gw ∧ Cond.code y bytes maxL ret ∈ gw ∧ y.cls = RJ5 ∧ (parseMethodDescriptor y.desc).map (fun d => d.parameters.length) = some n
def MWu (own : String) (index : Nat) (y : MethodName) (bytes : ByteArray) (maxL : Nat) (ret : Option FieldType) (n : Nat) : Prop := Cond.methodLink own index y ∈ gw ∧ Cond.superclass own y.cls ∈ gw ∧ Cond.instanceMethod y ∈ gw ∧ Cond.initialized y.cls ∈ gw ∧ Cond.code y bytes maxL ret ∈ gw ∧ y.cls = RJ5 ∧ y.name ≠ "<init>" ∧ (parseMethodDescriptor y.desc).map (fun d => d.parameters.length) = some n
theorem va_runP {y : MethodName} {bytes : ByteArray} {maxL mc ms fr lo n index : Nat} {ret : Option FieldType} {Pc : Array Value → State → Prop} {Qc : Array Value → State → Outcome → State → Prop} {free : Addr → Prop} {C : String} {b : Addr} {As : List Value} {g : JFrame}
    (S : CallFix p m c cc nL s args gw own) (hV : ZV Γ s) (hM : Met l y (Wsd y bytes maxL ret) { frames := fr, cells := mc, slots := ms, locals := lo } Pc Qc mc ms free) (hw : MWp own index y bytes maxL ret n) (hR : fr + 1 ≤ R.frames ∧ 8 + (maxL + 11) + lo ≤ R.locals) (hp : PreV s H C b Pc As)
    (hg : g.method = m) (hn : As.length = n) (hsize : g.locals.size = nL) (hstack : g.stack = As.reverse ++ .ref b :: rest) (hW : 2 * g.monitorRoom + (rest.map fun v => v.category).sum ≤ 8) (hdg : decode cc g.pc = .ok (.invokevirtual index, 3)) (hf : cells + mc ≤ R.cells ∧ slots + ms ≤ R.slots) :
    va_Run p l e R s m args below meth c H locs cells slots mc ms g rest (Qc (Value.ref b :: As).toArray) free := by
  obtain ⟨w1, w2, w3, w4, w5, w6, w7⟩ := hw
  have htg := S.2.2.2.2
  have hpr : (Cond.privateMethod y).before args s = true := va_Nw.use rfl (hV.1 _ w2)
  have hsel := asb_sel htg w6 hpr w3
  have cw : CallB R s args own index y bytes maxL ret (Wsd y bytes maxL ret) { frames := fr, cells := mc, slots := ms, locals := lo } mc ms n := callB_of n htg (gw_cons w5) rfl rfl rfl (htg _ w4) (htg _ w1) ⟨by rw [w6]; decide, by rw [w6]; decide, w7⟩ hR
  have hK : Back l R p e below s args y 3 8 (PreOf R mc ms Pc) (PostOf Qc mc ms free) := callBack cw hM hp.1
  obtain ⟨-, -, -, -, -, -, hcode, -, hy, hlen, hl⟩ := cw
  obtain ⟨hx, hb, hml, ho, -⟩ := S
  obtain ⟨-, ⟨cellB, hcB, hoB, hclB⟩, hPc⟩ := hp
  intro T hT X
  obtain ⟨v, vm₁, ⟨U', l2, c2, s2⟩, hW₁, X', ⟨g', mk, t, L, e1, e2, hq, h1, hL, h2, h3⟩, st⟩ := X.privateBack hx ho hl (htg _ w3) hsel (Cond.privateMethod_at hpr) hcode hy hK hg (hsize.trans hml.symm) (s₀ := T.setTop g) (Steps.refl _) (by rw [hT]; exact hcB) (fun q h => by rw [h] at hoB; cases hoB) (argsL := As) (rest := rest) (fun sig h => hn.trans (hlen sig h)) hstack hW (by rw [hb]; exact hdg)
    (fun vm₁ hW₁ => ⟨hf.1, hf.2, hPc (T.setVm vm₁) hT hW₁⟩)
  dsimp only [Pt.U, Pt.locs, Pt.cells, Pt.slots] at X' e1 e2 h1 h2 h3 st
  subst h1; subst h2; subst h3
  exact ⟨v, (T.setVm vm₁).calling g' mk (Value.ref b :: As).toArray, t, U', L, hT, X', hL, e1, e2, hq, fun tg h => st.trans h⟩
theorem va_runZ {y : MethodName} {bytes : ByteArray} {maxL mc ms fr lo n index : Nat} {ret : Option FieldType} {Pc : Array Value → State → Prop} {Qc : Array Value → State → Outcome → State → Prop} {free : Addr → Prop} {C : String} {cC : ClassId} {b : Addr} {As : List Value} {g : JFrame}
    (hat : ClassAt s C cC) (S : CallFix p m c cc nL s args gw own) (hM : Met l y (Wsd y bytes maxL ret) { frames := fr, cells := mc, slots := ms, locals := lo } Pc Qc mc ms free) (hw : MWu own index y bytes maxL ret n) (hR : fr + 1 ≤ R.frames ∧ 8 + (maxL + 11) + lo ≤ R.locals) (hp : PreV s H C b Pc As)
    (hg : g.method = m) (hn : As.length = n) (hsize : g.locals.size = nL) (hstack : g.stack = As.reverse ++ .ref b :: rest) (hW : 2 * g.monitorRoom + (rest.map fun v => v.category).sum ≤ 8) (hdg : decode cc g.pc = .ok (.invokespecial index, 3)) (hf : cells + mc ≤ R.cells ∧ slots + ms ≤ R.slots) :
    va_Run p l e R s m args below meth c H locs cells slots mc ms g rest (Qc (Value.ref b :: As).toArray) free := by
  obtain ⟨w1, w2, w3, w4, w5, w6, w8, w7⟩ := hw
  have htg := S.2.2.2.2
  have hG : GoodIn gw (Wsd y bytes maxL ret) := gw_cons w5
  exact va_runSU hat S hM ⟨⟨rfl, rfl, hR.1, hR.2, pay_in htg hG, List.mem_cons_self⟩, htg _ w1, asb_same htg w6 w3, htg _ w2, htg _ w3, htg _ w4, htg _ w5, w8, fun sig h => by rw [h] at w7; exact (Option.some.inj w7).symm⟩ hp hg hn hsize hstack hW hdg hf
end FRB
theorem sb_recv {Γ : Wc} {s : State} {H : Heap} {b v : Nat} {ml n : Int32} {w : va_W} (hK : va_K Γ.1 vwCl (tyK Γ.2.1) s) (hP : va_P Γ.1 vwCl ((b, .inr (12, [.ref v, .int 0, .int ml, .int n])) :: w) H) : ∃ cell : Cell, H[b]? = some cell ∧ cell.vm.isStatics = false ∧ s.vm.findClass RJ4 = some cell.cls :=
  va_recv (q := (RJ4, TJ4, 4)) (ci := 12) hK hP rfl (q0 := 0) rfl
theorem sbAt {Γ : Wc} {s : State} (hK : va_K Γ.1 vwCl (tyK Γ.2.1) s) : ClassAt s RJ4 (Γ.1.1 12) := (hK.1 12 _ rfl).2
theorem inJ4 : ∀ w ∈ u_ws RJ4 TJ4 4, w ∈ gw := fun w h => gw_t ((by decide +kernel : ∀ w ∈ u_ws RJ4 TJ4 4, w ∈ tables_1) w h) (List.all_eq_true.mp (by decide +kernel : (u_ws RJ4 TJ4 4).all goodWord = true) w h)
theorem fb_15 : Cond.fieldLink RJ5 15 RJ5 (TJ4 0).2.1 (TJ4 0).2.2.1 ∈ gw := gw_t (tin4 (List.mem_of_getElem? (i := 216) rfl)) rfl
theorem fb_22 : Cond.fieldLink RJ5 22 RJ5 (TJ4 1).2.1 (TJ4 1).2.2.1 ∈ gw := gw_t (tin4 (List.mem_of_getElem? (i := 217) rfl)) rfl
theorem fb_79 : Cond.fieldLink RJ5 79 RJ5 (TJ4 3).2.1 (TJ4 3).2.2.1 ∈ gw := gw_t (tin4 (List.mem_of_getElem? (i := 218) rfl)) rfl
theorem fb_cs : Cond.fieldLink RJ5 18 "java/lang/String" "COMPACT_STRINGS" "Z" ∈ gw := gw_t (tin4 (List.mem_of_getElem? (i := 167) rfl)) rfl
theorem sb_D {N : Nat} {ws w1 : va_W} (h : va_D (AN N) ws) (e : w1.map (fun q => q.1) = ws.map (fun q => q.1)) : va_D (AN N) w1 := by
  have hlen : w1.length = ws.length := by have := congrArg List.length e; simpa using this
  have at' : ∀ (k : Nat) (q : Nat × va_E), w1[k]? = some q → ∃ q', ws[k]? = some q' ∧ q'.1 = q.1 := by
    intro k q hk
    have h1 : (w1.map (fun q => q.1))[k]? = some q.1 := by rw [List.getElem?_map, hk]; rfl
    rw [e, List.getElem?_map] at h1
    obtain ⟨q', h2, h3⟩ := Option.map_eq_some_iff.mp h1
    exact ⟨q', h2, h3⟩
  refine ⟨fun i j x y hi hj hxy => ?_, fun k q hk => ?_⟩
  · obtain ⟨x', h1, h2⟩ := at' i x hi
    obtain ⟨y', h3, h4⟩ := at' j y hj
    exact h.1 i j x' y' h1 h3 (by rw [h2, h4, hxy])
  · obtain ⟨q', h1, h2⟩ := at' k q hk
    rw [← h2]
    exact h.2 k q' h1
theorem MBi.of {l : Launch} {Γ : Wc} {N : Nat} {y : MethodName} {cc : ByteArray} {nL : Nat} {ret : Option FieldType} {fr lo : Nat} {av : List Value} {w : va_W} {r : Int32} (hy : plainFor y = true) (hn : (lg_sl av).length ≤ nL)
    (body : ∀ (p : Program) (e : Env) (s : State) (m : MethodId) (args : Array Value) (below : List Frame) (meth : Method) (c : Code) (ls : Array Slot), CBx Γ N y.cls cc nL p s m args c → meth.sig.returnType = ret → meth.locks = false → va_P Γ.1 vwCl w s.heap → va_D (AN N) w → lv_has ls nL (lv_args 0 av) → W p l e { frames := fr, cells := 0, slots := 0, locals := lo } s m args below meth c s.heap [] 0 0 (MQ below (va_Qi (fun r' (_ : Unit) => r' = r) (fun _ t => va_P Γ.1 vwCl w t.heap) (AN N)) args s 0 0 (AN N)) (F0 m 0 ls [])) : MBi l Γ N y cc nL ret fr lo av w r := by
  refine ofWF_67 (cc := cc) (maxL := nL) (ret := ret) hy rfl ?_
  intro p e s m args below meth c s₁ B hml hv
  obtain ⟨rfl, hP, hD, hK, hZ, hV, hN, hG⟩ := hv
  rw [lg_entry_eq]
  exact body p e s m _ below meth c _ ⟨⟨B.exec, B.bytes, hml, findClass_of_methodNamed B.named, fun w hw => atoms_spec (ws := Wsd y cc nL ret) B.pre w (List.mem_cons_of_mem _ hw)⟩, hK, hZ, hV, hN, hG⟩ B.returns B.notSynchronized hP hD (lv_entry av hn)
theorem MBv.of {l : Launch} {Γ : Wc} {N : Nat} {y : MethodName} {cc : ByteArray} {nL : Nat} {fr lo mc ms : Nat} {av : List Value} {w : va_W} {P1 : va_W → Prop} (hy : plainFor y = true) (hn : (lg_sl av).length ≤ nL)
    (body : ∀ (p : Program) (e : Env) (s : State) (m : MethodId) (args : Array Value) (below : List Frame) (meth : Method) (c : Code) (ls : Array Slot), CBx Γ N y.cls cc nL p s m args c → meth.name = y.name → meth.sig.returnType = none → meth.locks = false → va_P Γ.1 vwCl w s.heap → va_D (AN N) w → lv_has ls nL (lv_args 0 av) → W p l e { frames := fr, cells := mc, slots := ms, locals := lo } s m args below meth c s.heap [] 0 0 (MQ below (va_Qv (fun _ : Unit => True) (fun _ t => ∃ w1, P1 w1 ∧ va_P Γ.1 vwCl w1 t.heap ∧ va_D (AN N) w1) (AN N)) args s mc ms (AN N)) (F0 m 0 ls [])) : MBv l Γ N y cc nL fr lo mc ms av w P1 := by
  refine ofWF_67 (cc := cc) (maxL := nL) (ret := none) hy rfl ?_
  intro p e s m args below meth c s₁ B hml hv
  obtain ⟨rfl, hP, hD, hK, hZ, hV, hN, hG⟩ := hv
  rw [lg_entry_eq]
  exact body p e s m _ below meth c _ ⟨⟨B.exec, B.bytes, hml, findClass_of_methodNamed B.named, fun w hw => atoms_spec (ws := Wsd y cc nL none) B.pre w (List.mem_cons_of_mem _ hw)⟩, hK, hZ, hV, hN, hG⟩ (name_of_methodNamed B.named B.method).1 B.returns B.notSynchronized hP hD (lv_entry av hn)
theorem MBr.of {l : Launch} {Γ : Wc} {N : Nat} {y : MethodName} {cc : ByteArray} {nL : Nat} {ret : Option FieldType} {fr lo mc ms : Nat} {av : List Value} {w : va_W} {P1 : Nat → va_W → Prop} (hy : plainFor y = true) (hn : (lg_sl av).length ≤ nL)
    (body : ∀ (p : Program) (e : Env) (s : State) (m : MethodId) (args : Array Value) (below : List Frame) (meth : Method) (c : Code) (ls : Array Slot), CBx Γ N y.cls cc nL p s m args c → meth.sig.returnType = ret → meth.locks = false → va_P Γ.1 vwCl w s.heap → va_D (AN N) w → lv_has ls nL (lv_args 0 av) → W p l e { frames := fr, cells := mc, slots := ms, locals := lo } s m args below meth c s.heap [] 0 0 (MQ below (va_Qr (fun _ : Unit => True) (fun _ ra t => ∃ w1, P1 ra w1 ∧ va_P Γ.1 vwCl w1 t.heap ∧ va_D (AN N) w1) (AN N)) args s mc ms (AN N)) (F0 m 0 ls [])) : MBr l Γ N y cc nL ret fr lo mc ms av w P1 := by
  refine ofWF_67 (cc := cc) (maxL := nL) (ret := ret) hy rfl ?_
  intro p e s m args below meth c s₁ B hml hv
  obtain ⟨rfl, hP, hD, hK, hZ, hV, hN, hG⟩ := hv
  rw [lg_entry_eq]
  exact body p e s m _ below meth c _ ⟨⟨B.exec, B.bytes, hml, findClass_of_methodNamed B.named, fun w hw => atoms_spec (ws := Wsd y cc nL ret) B.pre w (List.mem_cons_of_mem _ hw)⟩, hK, hZ, hV, hN, hG⟩ B.returns B.notSynchronized hP hD (lv_entry av hn)
theorem MBw.of {l : Launch} {Γ : Wc} {N : Nat} {y : MethodName} {cc : ByteArray} {nL : Nat} {fr lo mc ms : Nat} {av : List Value} {w : va_W} {P1 : Int32 → va_W → Prop} (hy : plainFor y = true) (hn : (lg_sl av).length ≤ nL)
    (body : ∀ (p : Program) (e : Env) (s : State) (m : MethodId) (args : Array Value) (below : List Frame) (meth : Method) (c : Code) (ls : Array Slot), CBx Γ N y.cls cc nL p s m args c → meth.sig.returnType = some .int → meth.locks = false → va_P Γ.1 vwCl w s.heap → va_D (AN N) w → lv_has ls nL (lv_args 0 av) → W p l e { frames := fr, cells := mc, slots := ms, locals := lo } s m args below meth c s.heap [] 0 0 (MQ below (va_Qi (fun _ (_ : Unit) => True) (fun _ t => ∃ w1 r, P1 r w1 ∧ va_P Γ.1 vwCl w1 t.heap ∧ va_D (AN N) w1) (AN N)) args s mc ms (AN N)) (F0 m 0 ls [])) : MBw l Γ N y cc nL fr lo mc ms av w P1 := by
  refine ofWF_67 (cc := cc) (maxL := nL) (ret := some .int) hy rfl ?_
  intro p e s m args below meth c s₁ B hml hv
  obtain ⟨rfl, hP, hD, hK, hZ, hV, hN, hG⟩ := hv
  rw [lg_entry_eq]
  exact body p e s m _ below meth c _ ⟨⟨B.exec, B.bytes, hml, findClass_of_methodNamed B.named, fun w hw => atoms_spec (ws := Wsd y cc nL (some .int)) B.pre w (List.mem_cons_of_mem _ hw)⟩, hK, hZ, hV, hN, hG⟩ B.returns B.notSynchronized hP hD (lv_entry av hn)
/-- the builder holds the text t of n letters -/
def TB (K : Nat → ClassId) (b : Nat) (t : Nat → Nat) (n : Nat) (w : va_W) : Prop := ∃ v m ml a, w = wB K b v m ml (nI n) a ∧ n ≤ m ∧ m ≤ 130 ∧ sb_Fit a ∧ sb_Lat t n a
/-- the same text, room for q letters -/
def CP (K : Nat → ClassId) (b : Nat) (ml n : Int32) (m q : Nat) (a : Nat → Int32) (w : va_W) : Prop := ∃ v' m' a', w = wB K b v' m' ml n a' ∧ q ≤ m' ∧ m ≤ m' ∧ m' ≤ 130 ∧ sb_Fit a' ∧ ∀ j, j < m → a' j = a j
