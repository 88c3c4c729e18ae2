/-! the law's own frame: both systems' cells, the out array, the script -/
def AMs (ad : Nat → Nat → Nat) : Nat → Prop := fun z => ∃ g c, dM g c ∧ z = ad g c
/-- what stays over the law's body -/
def LC (l : Launch) (Γ : Wc) (p : Program) (s : State) (m : MethodId) (b L : Nat) (xs : Nat → Int32) (c : Code) : Prop :=
  p.tables.exec = Jvm.exec ∧ c.code = cL_law ∧ c.maxLocals = 9 ∧ s.vm.findClass RL = some m.cls ∧ (∀ w ∈ gw, w.before #[Value.ref b] s = true) ∧ va_K Γ.1 vwCl (tyK Γ.2.1) s ∧ ZH Γ (fun q => s.heap.size ≤ q) s s.heap ∧ ZV Γ s ∧ NC s ∧ va_X b L xs s s.heap ∧ b < s.heap.size ∧ l.stackTraces = false
/-- the cells' places -/
def LD (s : State) (ax am : Nat → Nat → Nat) (o : Nat) : Prop := AX SX ax (AXs ax) ∧ AX SM am (AMs am) ∧ (∀ z, AXs ax z → s.heap.size ≤ z) ∧ (∀ z, AMs am z → s.heap.size ≤ z) ∧ s.heap.size ≤ o ∧ (∀ z, AXs ax z → ¬ AMs am z) ∧ ¬ AXs ax o ∧ ¬ AMs am o
/-- what holds at a point -/
def LI (Γ : Wc) (s : State) (ax am : Nat → Nat → Nat) (o : Nat) (σ τ : Sig) (f : Nat → Int64) (H : Heap) (locs : List Loc) : Prop := va_S (fun q => s.heap.size ≤ q) s.heap H locs ∧ PX SX Γ ax σ H ∧ PX SM Γ am τ H ∧ va_at Γ.1 vwCl (oC Γ o f) H
theorem ZH.narrow {Γ : Wc} {A B : Nat → Prop} {U : State} {H : Heap} (h : ZH Γ A U H) (hAB : ∀ q, B q → A q) : ZH Γ B U H := ⟨h.1.narrow hAB, h.2.1.narrow hAB, h.2.2.1.narrow hAB, h.2.2.2.1.narrow hAB, fun i hi => ⟨(h.2.2.2.2 i hi).1.narrow hAB, (h.2.2.2.2 i hi).2.1.narrow hAB, (h.2.2.2.2 i hi).2.2.1.narrow hAB, (h.2.2.2.2 i hi).2.2.2.narrow hAB⟩⟩
theorem recvL {Y : Sys} {Γ : Wc} {ad : Nat → Nat → Nat} {σ : Sig} {s : State} {H : Heap} (hK : va_K Γ.1 vwCl (tyK Γ.2.1) s) (hP : PX Y Γ ad σ H) {g k0 ci N : Nat} {fs : List Value} {C : String} {T : u_T} (hd : Y.2 g k0) (he : Y.1 Γ.2.1 ad g k0 (σ g k0) = .inr (ci, fs)) (hc : vwCl[ci]? = some (C, T, N)) : ∃ cell : Cell, H[ad g k0]? = some cell ∧ cell.vm.isStatics = false ∧ s.vm.findClass C = some cell.cls :=
  va_recv (q := (C, T, N)) hK (vaP1 (e := .inr (ci, fs)) (he ▸ hP g k0 hd)) hc (q0 := 0) rfl
theorem MWr.blind {Γ : Wc} {ad : Nat → Nat → Nat} {o : Nat} {σ : Sig} {av : List Value} : FrameBlind (va_Pc av (fun U => Pre SX Γ ad (AXs ad) σ U ∧ (∃ f, va_at Γ.1 vwCl (oC Γ o f) U.heap) ∧ ¬ AXs ad o ∧ NC U)) := fun a U g mk q => ⟨q.1, ⟨q.2.1.1, va_K.moved (u := U) (U := U.calling g mk a) (Vm.Alike.refl U.vm) q.2.1.2.1, q.2.1.2.2.1, ZH.moved (u := U) (U := U.calling g mk a) (Vm.Alike.refl U.vm) q.2.1.2.2.2.1, ZV.same (u := U) (U := U.calling g mk a) rfl q.2.1.2.2.2.2⟩, q.2.2.1, q.2.2.2.1, NC.moved (u := U) (U := U.calling g mk a) (Vm.Alike.refl U.vm) q.2.2.2.2⟩
/-- the words of a wrapper's call -/
def MWz (index : Nat) (y : MethodName) (bytes : ByteArray) (maxL : Nat) (hh : List (Nat × Nat × Nat × Nat)) (n : Nat) : Prop := Cond.methodLink RL index y ∈ gw ∧ Cond.static y ∈ gw ∧ Cond.initialized y.cls ∈ gw ∧ Cond.codeWith y bytes maxL (some .int) hh ∈ gw ∧ y.cls ≠ "java/lang/invoke/MethodHandle" ∧ y.cls ≠ "java/lang/invoke/VarHandle" ∧ (parseMethodDescriptor y.desc).map (fun d => d.parameters.length) = some n
/-- both told: the reference's note of what was thrown is the wrapper's answer -/
theorem th_eq {lst : List Nat} (hn : lst.Nodup) (hlen : lst.length ≤ 3) {q1 : Nat} {t k r v : Int32} {x : Int64} (h1 : (q1 = 0 ∧ t = 0 ∧ r = v) ∨ ∃ i : Nat, lst[i]? = some q1 ∧ ¬ q1 = 0 ∧ t = Int32.ofNat (i + 1)) (h2 : (q1 = 0 ∧ k = 0 ∧ x = v.toInt64) ∨ ∃ i : Nat, lst[i]? = some q1 ∧ ¬ q1 = 0 ∧ k = Int32.ofNat (i + 1)) : t = k ∧ (k = 0 → q1 = 0 ∧ r = v ∧ x = v.toInt64) := by
  rcases h1 with ⟨a1, a2, a3⟩ | ⟨i, a1, a2, a3⟩
  · rcases h2 with ⟨b1, b2, b3⟩ | ⟨j, b1, b2, b3⟩
    · exact ⟨by rw [a2, b2], fun _ => ⟨a1, a3, b3⟩⟩
    · exact absurd a1 b2
  · rcases h2 with ⟨b1, b2, b3⟩ | ⟨j, b1, b2, b3⟩
    · exact absurd b1 a2
    · have hi := (List.getElem?_eq_some_iff.mp a1).1
      have e : i = j := (List.getElem?_inj hi hn).mp (a1.trans b1.symm)
      subst e
      refine ⟨by rw [a3, b3], fun hk => ?_⟩
      have q : (Int32.ofNat (i + 1)).toInt = 0 := by rw [← b3, hk]; rfl
      rw [oN _ (by omega)] at q
      omega
theorem hq_of {lst : List Nat} {q1 : Nat} {P : Prop} {Q : Nat → Prop} (h : (q1 = 0 ∧ P) ∨ ∃ i : Nat, lst[i]? = some q1 ∧ Q i) : q1 = 0 ∨ q1 ∈ lst := h.elim (fun h => Or.inl h.1) (fun ⟨_, h, _⟩ => Or.inr (List.mem_of_getElem? h))
section LW
variable {p : Program} {l : Launch} {e : Env} {s : State} {m : MethodId} {below : List Frame} {meth : Method} {c : Code} {H : Heap} {locs : List Loc} {cells slots : Nat} {Q : State → Prop}
variable {pc b L o : Nat} {xs : Nat → Int32} {ls : Array Slot} {rest st : List Value} {Γ : Wc} {ax am : Nat → Nat → Nat} {σ τ σ' τ' : Sig} {f : Nat → Int64}
theorem MWz.callB {R : Room} {Y : Sys} {ad : Nat → Nat → Nat} {A : Nat → Prop} {args : Array Value} {cc : ByteArray} {nL index maxL n fr lo k : Nat} {y : MethodName} {bytes : ByteArray} {hh : List (Nat × Nat × Nat × Nat)} (cx : CX Y Γ ad A RL cc nL p s m args c) (h : MWz index y bytes maxL hh n) (hR : fr + 1 ≤ R.frames ∧ 8 + (maxL + 11) + lo ≤ R.locals) : vx_CSW R s args RL index y bytes maxL (some .int) hh (.codeWith y bytes maxL (some .int) hh :: gw) (rmx fr lo k) k (6 * k) n := by
  obtain ⟨h1, h2, h3, h4, h5, h6, h7⟩ := h
  refine vx_cwSW n cx.hts (gw_app (a := [.methodLink RL index y, .static y, .initialized y.cls]) (fun w hw => ?_) (gw_cons h4)) rfl rfl rfl ⟨h5, h6, h7⟩ hR
  rcases List.mem_cons.mp hw with rfl | hw
  · exact h1
  · rcases List.mem_cons.mp hw with rfl | hw
    · exact h2
    · rw [List.mem_singleton.mp hw]; exact h3
theorem LC.cx (C : LC l Γ p s m b L xs c) (D : LD s ax am o) : CX SX Γ ax (AXs ax) RL cL_law 9 p s m #[Value.ref b] c := ⟨C.1, C.2.1, C.2.2.1, C.2.2.2.1, C.2.2.2.2.1, C.2.2.2.2.2.1, D.1, C.2.2.2.2.2.2.1.narrow D.2.2.1, C.2.2.2.2.2.2.2.1⟩
theorem LC.cm (C : LC l Γ p s m b L xs c) (D : LD s ax am o) : CX SM Γ am (AMs am) RL cL_law 9 p s m #[Value.ref b] c := ⟨C.1, C.2.1, C.2.2.1, C.2.2.2.1, C.2.2.2.2.1, C.2.2.2.2.2.1, D.2.1, C.2.2.2.2.2.2.1.narrow D.2.2.2.1, C.2.2.2.2.2.2.2.1⟩
theorem LC.preX (C : LC l Γ p s m b L xs c) (D : LD s ax am o) (I : LI Γ s ax am o σ τ f H locs) {U : State} (hU : U.heap = H) (hW : s.WarmedH U.vm) : Pre SX Γ ax (AXs ax) σ U := ⟨by rw [hU]; exact I.2.1, va_K.moved hW.alike C.2.2.2.2.2.1, D.1, by rw [hU]; exact ((C.2.2.2.2.2.2.1.kept I.1.2.1).narrow D.2.2.1).moved hW.alike, C.2.2.2.2.2.2.2.1.warm hW⟩
theorem LC.preM (C : LC l Γ p s m b L xs c) (D : LD s ax am o) (I : LI Γ s ax am o σ τ f H locs) {U : State} (hU : U.heap = H) (hW : s.WarmedH U.vm) : Pre SM Γ am (AMs am) τ U := ⟨by rw [hU]; exact I.2.2.1, va_K.moved hW.alike C.2.2.2.2.2.1, D.2.1, by rw [hU]; exact ((C.2.2.2.2.2.2.1.kept I.1.2.1).narrow D.2.2.2.1).moved hW.alike, C.2.2.2.2.2.2.2.1.warm hW⟩
/-- behind a call of the class's -/
theorem LI.callX {H1 : Heap} {locs1 : List Loc} (D : LD s ax am o) (I : LI Γ s ax am o σ τ f H locs) (hS : va_S (fun q => s.heap.size ≤ q) s.heap H1 locs1) (hB : PX SX Γ ax σ' H1) (hk : ∀ q : Nat, q < H.size → ¬ AXs ax q → H1[q]? = H[q]?) : LI Γ s ax am o σ' τ f H1 locs1 :=
  ⟨hS, hB, fun g k hd => (I.2.2.1 g k hd).kept (hk _ (I.2.2.1 g k hd).lt (fun z => D.2.2.2.2.2.1 _ z ⟨g, k, hd, rfl⟩)), I.2.2.2.kept (hk _ I.2.2.2.lt D.2.2.2.2.2.2.1)⟩
theorem LI.callM {H1 : Heap} {locs1 : List Loc} (D : LD s ax am o) (I : LI Γ s ax am o σ τ f H locs) (hS : va_S (fun q => s.heap.size ≤ q) s.heap H1 locs1) (hB : PX SM Γ am τ' H1) (hk : ∀ q : Nat, q < H.size → ¬ AMs am q → H1[q]? = H[q]?) : LI Γ s ax am o σ τ' f H1 locs1 :=
  ⟨hS, fun g k hd => (I.2.1 g k hd).kept (hk _ (I.2.1 g k hd).lt (fun z => D.2.2.2.2.2.1 _ ⟨g, k, hd, rfl⟩ z)), hB, I.2.2.2.kept (hk _ I.2.2.2.lt D.2.2.2.2.2.2.2)⟩
-- the calls
theorem lx_i (C : LC l Γ p s m b L xs c) (D : LD s ax am o) (I : LI Γ s ax am o σ τ f H locs) {fr lo maxL index : Nat} {y : MethodName} {bytes : ByteArray} {rt : Option FieldType} {r : Int32} {As : List Value} (hM : MI l SX Γ ax (AXs ax) y bytes maxL rt fr lo (.ref (ax 0 0) :: As) σ r σ') (hw : MWv RL index y bytes maxL rt As.length) (hy : y.cls = RX11) (hR : fr + 1 ≤ room_1.frames ∧ 8 + (maxL + 11) + lo ≤ room_1.locals) (hst : st = As.reverse ++ .ref (ax 0 0) :: rest) (hrs : (rest.map fun v => v.category).sum ≤ 8) (hsz : ls.size = 9) (hcs : cells ≤ 601024 ∧ slots ≤ 7293034) (d : decode cL_law pc = .ok (.invokevirtual index, 3))
    (kk : ∀ (H1 : Heap) (locs1 : List Loc), LI Γ s ax am o σ' τ f H1 locs1 → W p l e room_1 s m #[Value.ref b] below meth c H1 locs1 cells slots Q (F0 m (pc + 3) ls (.int r :: rest))) : W p l e room_1 s m #[Value.ref b] below meth c H locs cells slots Q (F0 m pc ls st) := by
  have cx := C.cx D
  have hrv : ∃ cell : Cell, H[ax 0 0]? = some cell ∧ cell.vm.isStatics = false ∧ s.vm.findClass y.cls = some cell.cls := by
    rw [hy]
    exact recvL cx.hK I.2.1 (dXr (by decide)) rfl rfl
  refine va_calli (va_runV (As := As) (rest := rest) (fixOf cx) hM (hw.callB cx hR) ⟨Pre.blind, hrv, fun U hU hW => ⟨rfl, C.preX D I hU hW⟩⟩ rfl rfl hsz hst (lv_room hrs) d hcs) I.1 (fun q _ h => D.2.2.1 q h) (fun q h => D.2.2.1 q h) (fun r' u t H1 locs1 ht hvm hw hB hz1 hk1 hS => ?_)
  subst hw
  exact kk H1 locs1 (I.callX D hS (by rw [← ht]; exact hB) hk1)
theorem lm_i (C : LC l Γ p s m b L xs c) (D : LD s ax am o) (I : LI Γ s ax am o σ τ f H locs) {fr lo maxL index : Nat} {y : MethodName} {bytes : ByteArray} {rt : Option FieldType} {r : Int32} {As : List Value} (hM : MI l SM Γ am (AMs am) y bytes maxL rt fr lo (.ref (am 0 0) :: As) τ r τ') (hw : MWv RL index y bytes maxL rt As.length) (hy : y.cls = RX12) (hR : fr + 1 ≤ room_1.frames ∧ 8 + (maxL + 11) + lo ≤ room_1.locals) (hst : st = As.reverse ++ .ref (am 0 0) :: rest) (hrs : (rest.map fun v => v.category).sum ≤ 8) (hsz : ls.size = 9) (hcs : cells ≤ 601024 ∧ slots ≤ 7293034) (d : decode cL_law pc = .ok (.invokevirtual index, 3))
    (kk : ∀ (H1 : Heap) (locs1 : List Loc), LI Γ s ax am o σ τ' f H1 locs1 → W p l e room_1 s m #[Value.ref b] below meth c H1 locs1 cells slots Q (F0 m (pc + 3) ls (.int r :: rest))) : W p l e room_1 s m #[Value.ref b] below meth c H locs cells slots Q (F0 m pc ls st) := by
  have cx := C.cm D
  have hrv : ∃ cell : Cell, H[am 0 0]? = some cell ∧ cell.vm.isStatics = false ∧ s.vm.findClass y.cls = some cell.cls := by
    rw [hy]
    exact recvL cx.hK I.2.2.1 (dMr (by decide)) rfl rfl
  refine va_calli (va_runV (As := As) (rest := rest) (fixOf cx) hM (hw.callB cx hR) ⟨Pre.blind, hrv, fun U hU hW => ⟨rfl, C.preM D I hU hW⟩⟩ rfl rfl hsz hst (lv_room hrs) d hcs) I.1 (fun q _ h => D.2.2.2.1 q h) (fun q h => D.2.2.2.1 q h) (fun r' u t H1 locs1 ht hvm hw hB hz1 hk1 hS => ?_)
  subst hw
  exact kk H1 locs1 (I.callM D hS (by rw [← ht]; exact hB) hk1)
theorem lx_d (C : LC l Γ p s m b L xs c) (D : LD s ax am o) (I : LI Γ s ax am o σ τ f H locs) {fr lo maxL index : Nat} {y : MethodName} {bytes : ByteArray} {r : UInt64} {As : List Value} (hM : MD l SX Γ ax (AXs ax) y bytes maxL fr lo (.ref (ax 0 0) :: As) σ r σ') (hw : MWv RL index y bytes maxL (some .double) As.length) (hy : y.cls = RX11) (hR : fr + 1 ≤ room_1.frames ∧ 8 + (maxL + 11) + lo ≤ room_1.locals) (hst : st = As.reverse ++ .ref (ax 0 0) :: rest) (hrs : (rest.map fun v => v.category).sum ≤ 8) (hsz : ls.size = 9) (hcs : cells ≤ 601024 ∧ slots ≤ 7293034) (d : decode cL_law pc = .ok (.invokevirtual index, 3))
    (kk : ∀ (H1 : Heap) (locs1 : List Loc), LI Γ s ax am o σ' τ f H1 locs1 → W p l e room_1 s m #[Value.ref b] below meth c H1 locs1 cells slots Q (F0 m (pc + 3) ls (.double r :: rest))) : W p l e room_1 s m #[Value.ref b] below meth c H locs cells slots Q (F0 m pc ls st) := by
  have cx := C.cx D
  have hrv : ∃ cell : Cell, H[ax 0 0]? = some cell ∧ cell.vm.isStatics = false ∧ s.vm.findClass y.cls = some cell.cls := by
    rw [hy]
    exact recvL cx.hK I.2.1 (dXr (by decide)) rfl rfl
  refine va_calld (va_runV (As := As) (rest := rest) (fixOf cx) hM (hw.callB cx hR) ⟨Pre.blind, hrv, fun U hU hW => ⟨rfl, C.preX D I hU hW⟩⟩ rfl rfl hsz hst (lv_room hrs) d hcs) I.1 (fun q _ h => D.2.2.1 q h) (fun q h => D.2.2.1 q h) (fun r' u t H1 locs1 ht hvm hw hB hz1 hk1 hS => ?_)
  subst hw
  exact kk H1 locs1 (I.callX D hS (by rw [← ht]; exact hB) hk1)
theorem lm_d (C : LC l Γ p s m b L xs c) (D : LD s ax am o) (I : LI Γ s ax am o σ τ f H locs) {fr lo maxL index : Nat} {y : MethodName} {bytes : ByteArray} {r : UInt64} {As : List Value} (hM : MD l SM Γ am (AMs am) y bytes maxL fr lo (.ref (am 0 0) :: As) τ r τ') (hw : MWv RL index y bytes maxL (some .double) As.length) (hy : y.cls = RX12) (hR : fr + 1 ≤ room_1.frames ∧ 8 + (maxL + 11) + lo ≤ room_1.locals) (hst : st = As.reverse ++ .ref (am 0 0) :: rest) (hrs : (rest.map fun v => v.category).sum ≤ 8) (hsz : ls.size = 9) (hcs : cells ≤ 601024 ∧ slots ≤ 7293034) (d : decode cL_law pc = .ok (.invokevirtual index, 3))
    (kk : ∀ (H1 : Heap) (locs1 : List Loc), LI Γ s ax am o σ τ' f H1 locs1 → W p l e room_1 s m #[Value.ref b] below meth c H1 locs1 cells slots Q (F0 m (pc + 3) ls (.double r :: rest))) : W p l e room_1 s m #[Value.ref b] below meth c H locs cells slots Q (F0 m pc ls st) := by
  have cx := C.cm D
  have hrv : ∃ cell : Cell, H[am 0 0]? = some cell ∧ cell.vm.isStatics = false ∧ s.vm.findClass y.cls = some cell.cls := by
    rw [hy]
    exact recvL cx.hK I.2.2.1 (dMr (by decide)) rfl rfl
  refine va_calld (va_runV (As := As) (rest := rest) (fixOf cx) hM (hw.callB cx hR) ⟨Pre.blind, hrv, fun U hU hW => ⟨rfl, C.preM D I hU hW⟩⟩ rfl rfl hsz hst (lv_room hrs) d hcs) I.1 (fun q _ h => D.2.2.2.1 q h) (fun q h => D.2.2.2.1 q h) (fun r' u t H1 locs1 ht hvm hw hB hz1 hk1 hS => ?_)
  subst hw
  exact kk H1 locs1 (I.callM D hS (by rw [← ht]; exact hB) hk1)
theorem lx_f (C : LC l Γ p s m b L xs c) (D : LD s ax am o) (I : LI Γ s ax am o σ τ f H locs) {fr lo maxL index : Nat} {y : MethodName} {bytes : ByteArray} {r : UInt32} {As : List Value} (hM : MF l SX Γ ax (AXs ax) y bytes maxL fr lo (.ref (ax 0 0) :: As) σ r σ') (hw : MWv RL index y bytes maxL (some .float) As.length) (hy : y.cls = RX11) (hR : fr + 1 ≤ room_1.frames ∧ 8 + (maxL + 11) + lo ≤ room_1.locals) (hst : st = As.reverse ++ .ref (ax 0 0) :: rest) (hrs : (rest.map fun v => v.category).sum ≤ 8) (hsz : ls.size = 9) (hcs : cells ≤ 601024 ∧ slots ≤ 7293034) (d : decode cL_law pc = .ok (.invokevirtual index, 3))
    (kk : ∀ (H1 : Heap) (locs1 : List Loc), LI Γ s ax am o σ' τ f H1 locs1 → W p l e room_1 s m #[Value.ref b] below meth c H1 locs1 cells slots Q (F0 m (pc + 3) ls (.float r :: rest))) : W p l e room_1 s m #[Value.ref b] below meth c H locs cells slots Q (F0 m pc ls st) := by
  have cx := C.cx D
  have hrv : ∃ cell : Cell, H[ax 0 0]? = some cell ∧ cell.vm.isStatics = false ∧ s.vm.findClass y.cls = some cell.cls := by
    rw [hy]
    exact recvL cx.hK I.2.1 (dXr (by decide)) rfl rfl
  refine va_callf (va_runV (As := As) (rest := rest) (fixOf cx) hM (hw.callB cx hR) ⟨Pre.blind, hrv, fun U hU hW => ⟨rfl, C.preX D I hU hW⟩⟩ rfl rfl hsz hst (lv_room hrs) d hcs) I.1 (fun q _ h => D.2.2.1 q h) (fun q h => D.2.2.1 q h) (fun r' u t H1 locs1 ht hvm hw hB hz1 hk1 hS => ?_)
  subst hw
  exact kk H1 locs1 (I.callX D hS (by rw [← ht]; exact hB) hk1)
theorem lm_f (C : LC l Γ p s m b L xs c) (D : LD s ax am o) (I : LI Γ s ax am o σ τ f H locs) {fr lo maxL index : Nat} {y : MethodName} {bytes : ByteArray} {r : UInt32} {As : List Value} (hM : MF l SM Γ am (AMs am) y bytes maxL fr lo (.ref (am 0 0) :: As) τ r τ') (hw : MWv RL index y bytes maxL (some .float) As.length) (hy : y.cls = RX12) (hR : fr + 1 ≤ room_1.frames ∧ 8 + (maxL + 11) + lo ≤ room_1.locals) (hst : st = As.reverse ++ .ref (am 0 0) :: rest) (hrs : (rest.map fun v => v.category).sum ≤ 8) (hsz : ls.size = 9) (hcs : cells ≤ 601024 ∧ slots ≤ 7293034) (d : decode cL_law pc = .ok (.invokevirtual index, 3))
    (kk : ∀ (H1 : Heap) (locs1 : List Loc), LI Γ s ax am o σ τ' f H1 locs1 → W p l e room_1 s m #[Value.ref b] below meth c H1 locs1 cells slots Q (F0 m (pc + 3) ls (.float r :: rest))) : W p l e room_1 s m #[Value.ref b] below meth c H locs cells slots Q (F0 m pc ls st) := by
  have cx := C.cm D
  have hrv : ∃ cell : Cell, H[am 0 0]? = some cell ∧ cell.vm.isStatics = false ∧ s.vm.findClass y.cls = some cell.cls := by
    rw [hy]
    exact recvL cx.hK I.2.2.1 (dMr (by decide)) rfl rfl
  refine va_callf (va_runV (As := As) (rest := rest) (fixOf cx) hM (hw.callB cx hR) ⟨Pre.blind, hrv, fun U hU hW => ⟨rfl, C.preM D I hU hW⟩⟩ rfl rfl hsz hst (lv_room hrs) d hcs) I.1 (fun q _ h => D.2.2.2.1 q h) (fun q h => D.2.2.2.1 q h) (fun r' u t H1 locs1 ht hvm hw hB hz1 hk1 hS => ?_)
  subst hw
  exact kk H1 locs1 (I.callM D hS (by rw [← ht]; exact hB) hk1)
/-- a callee that never throws -/
theorem vx_callz {R : Room} {args : Array Value} {mc ms : Nat} {st0 : List Value} {free A1 A0 : Nat → Prop} {H0 : Heap} {a : Array Value} {S : Type} {post : Int32 → S → Prop} {B : S → State → Prop} (hr : vx_Run p l e R s m args below meth c H locs cells slots mc ms (F0 m pc ls st0) rest (va_Qi post B A1 a) (fun _ _ _ => False) free) (hS : va_S A0 H0 H locs) (hA : ∀ q, q < H.size → A1 q → A0 q) (hf : ∀ q, free q → A0 q)
    (kk : ∀ (r : Int32) (u : S) (t : State) (H1 : Heap) (locs1 : List Loc), t.heap = H1 → s.vm.Alike t.vm → post r u → B u t → H.size ≤ H1.size → (∀ q : Nat, q < H.size → ¬ A1 q → H1[q]? = H[q]?) → va_S A0 H0 H1 locs1 → W p l e R s m args below meth c H1 locs1 (cells + mc) (slots + ms) Q (F0 m (pc + 3) ls (.int r :: rest))) : W p l e R s m args below meth c H locs cells slots Q (F0 m pc ls st0) := by
  have hr2 : vx_Run p l e R s m args below meth c H locs cells slots mc ms (F0 m pc ls st0) rest (va_Qi post B A1 a) (vx_X (fun _ : Unit => False) (fun _ _ _ => True) (fun _ => False)) free := by
    intro T hT X
    rcases hr T hT X with h | ⟨q, st₀, t, T', L, E, ce, h0, X', hL, e1, e2, hx, _⟩
    · exact Or.inl h
    · exact hx.elim
  exact vx_calli hr2 hS hA hf (fun _ _ h => h.elim) (fun E ce q9 u t H1 locs1 ht hvm hu => hu.elim) kk
theorem lw_s (C : LC l Γ p s m b L xs c) (D : LD s ax am o) (I : LI Γ s ax am o σ τ f H locs) {fr lo k maxL index : Nat} {y : MethodName} {bytes : ByteArray} {hh : List (Nat × Nat × Nat × Nat)} {As : List Value} {q : Xe} {lst : List Nat} (hM : MWr l Γ ax o y bytes maxL hh fr lo k As σ q lst) (hw : MWz index y bytes maxL hh As.length) (hR : fr + 1 ≤ room_1.frames ∧ 8 + (maxL + 11) + lo ≤ room_1.locals) (hst : st = As.reverse ++ rest) (hrs : (rest.map fun v => v.category).sum ≤ 8) (hsz : ls.size = 9) (hk4 : k ≤ 5) (hcs : cells + 5 ≤ 601024 ∧ slots + 30 ≤ 7293034) (d : decode cL_law pc = .ok (.invokestatic index, 3))
    (kk : ∀ (r : Int32) (f' : Nat → Int64) (H1 : Heap) (locs1 : List Loc), LI Γ s ax am o q.2.2 τ f' H1 locs1 → ((q.1 = 0 ∧ r = 0 ∧ f' 0 = q.2.1.toInt64) ∨ ∃ i : Nat, lst[i]? = some q.1 ∧ ¬ q.1 = 0 ∧ r = Int32.ofNat (i + 1)) → W p l e room_1 s m #[Value.ref b] below meth c H1 locs1 (cells + 5) (slots + 30) Q (F0 m (pc + 3) ls (.int r :: rest))) : W p l e room_1 s m #[Value.ref b] below meth c H locs cells slots Q (F0 m pc ls st) := by
  have cx := C.cx D
  refine vx_callz (vx_runSX (As := As) (rest := rest) (fixOf cx) hM (hw.callB cx hR) ⟨MWr.blind, fun U hU hW => ⟨rfl, C.preX D I hU hW, ⟨f, by rw [hU]; exact I.2.2.2⟩, D.2.2.2.2.2.2.1, C.2.2.2.2.2.2.2.2.1.moved hW.alike⟩⟩ rfl rfl hsz hst (lv_room hrs) d ⟨by show cells + k ≤ 601024; omega, by show slots + 6 * k ≤ 7293034; omega⟩) I.1 (fun z _ h => h.elim (D.2.2.1 z) (fun h => h ▸ D.2.2.2.2.1)) (fun z h => h.elim (D.2.2.1 z) (fun h => h ▸ D.2.2.2.2.1)) (fun r u t H1 locs1 ht hvm hw hB hz1 hk1 hS => ?_)
  rw [ht] at hB
  obtain ⟨hX, f', hf', hq0⟩ := hB
  refine W.widen (k := cells + 5) (n := slots + 30) (by omega) (by omega) ?_
  refine kk r f' H1 locs1 ⟨hS, hX, fun g k hd => (I.2.2.1 g k hd).kept (hk1 _ (I.2.2.1 g k hd).lt (fun z => z.elim (fun z => D.2.2.2.2.2.1 _ z ⟨g, k, hd, rfl⟩) (fun z => D.2.2.2.2.2.2.2 ⟨g, k, hd, z.symm⟩))), hf'⟩ ?_
  rcases hw with ⟨h1, h2⟩ | h
  · exact Or.inl ⟨h1, h2, hq0 h1⟩
  · exact Or.inr h
/-- the locals at a step -/
abbrev LV (b : Nat) (ax am : Nat → Nat → Nat) (o j : Nat) : List (Nat × Value) := [(4, .int (Int32.ofNat j)), (0, .ref b), (1, .ref (ax 0 0)), (2, .ref (am 0 0)), (3, .ref o)]
/-- script[i + k] -/
theorem l_rd (C : LC l Γ p s m b L xs c) (I : LI Γ s ax am o σ τ f H locs) {j : Nat} {n : Int} (k : Nat) (h0 : ls[0]? = some (.val (.ref b))) (h4 : ls[4]? = some (.val (.int (Int32.ofNat j)))) (hj : j + 6 ≤ L ∧ L ≤ 3072) (hk : k < 6) (hn : Int32.ofInt n = Int32.ofNat k) (d0 : decode cL_law pc = .ok (.aload_n 0, 1)) (d1 : decode cL_law (pc + 1) = .ok (.iload 4, 2)) (d3 : decode cL_law (pc + 3) = .ok (.iconst n, 1)) (d4 : decode cL_law (pc + 4) = .ok (.iadd, 1)) (d5 : decode cL_law (pc + 5) = .ok (.iaload, 1))
    (kk : W p l e room_1 s m #[Value.ref b] below meth c H locs cells slots Q (F0 m (pc + 6) ls (.int (xs (j + k)) :: rest))) : W p l e room_1 s m #[Value.ref b] below meth c H locs cells slots Q (F0 m pc ls rest) := by
  have e1 : Int32.ofNat j + Int32.ofNat k = Int32.ofNat (j + k) := (Int32.ofNat_add j k).symm
  have e2 : (Int32.ofNat (j + k)).toInt = ((j + k : Nat) : Int) := oN _ (by omega)
  have e3 : (Int32.ofNat (j + k)).toNatClampNeg = j + k := by
    show (Int32.ofNat (j + k)).toInt.toNat = _
    rw [e2]
    exact Int.toNat_natCast _
  refine lv_aload_n C.1 C.2.1 d0 rfl h0 ?_
  refine lv_iload C.1 C.2.1 d1 h4 ?_
  refine lv_iconst (v := Int32.ofNat k) C.1 C.2.1 d3 hn ?_
  refine lv_iadd C.1 C.2.1 d4 ?_
  rw [e1]
  refine va_sld C.1 C.2.1 C.2.2.2.2.2.2.2.2.2.1 C.2.2.2.2.2.2.2.2.2.2.1 (Nat.not_le.mpr C.2.2.2.2.2.2.2.2.2.2.1) I.1 ?_ d5 ?_
  · intro q
    rcases q with q | q
    · rw [Int32.lt_iff_toInt_lt, e2] at q
      have : (0 : Int32).toInt = 0 := rfl
      omega
    · rw [e3] at q
      omega
  · rw [e3]
    exact kk
end LW
/-- what goes on behind a step -/
def LK (p : Program) (l : Launch) (e : Env) (s : State) (m : MethodId) (b : Nat) (below : List Frame) (meth : Method) (c : Code) (Γ : Wc) (ax am : Nat → Nat → Nat) (o : Nat) (Q : State → Prop) (cells slots j : Nat) : Prop := ∀ (σ' τ' : Sig) (f' : Nat → Int64) (H' : Heap) (locs' : List Loc) (ls' : Array Slot), LI Γ s ax am o σ' τ' f' H' locs' → Rl σ' τ' → lv_has ls' 9 (LV b ax am o j) → W p l e room_1 s m #[Value.ref b] below meth c H' locs' (cells + 5) (slots + 30) Q (F0 m 3262 ls' [])
theorem lg0 {x y : Int64} (h : x = y) : lg_cmp x y = 0 := by subst h; simp [lg_cmp]
theorem vp01 : vp_in (0 : Int32) 1 := by unfold vp_in; decide
