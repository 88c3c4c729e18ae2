/-! methods that return or throw: the value is (0, answer, state) or (which exception, 0, state) -/
def exN (k : Nat) : String := match k with
  | 1 => "java/lang/IllegalArgumentException"
  | 2 => "java/lang/IndexOutOfBoundsException"
  | 3 => "java/lang/IllegalStateException"
  | _ => "java/util/NoSuchElementException"
abbrev Xe : Type := Nat × Int32 × Sig
def bnx (x : Option Xe) (f : Int32 → Sig → Option Xe) : Option Xe := match x with
  | some (0, v, σ) => f v σ
  | some (k + 1, _, σ) => some (k + 1, 0, σ)
  | none => none
theorem bnx_some {x : Option Xe} {f : Int32 → Sig → Option Xe} {r : Xe} (h : bnx x f = some r) : ∃ k v σ, x = some (k, v, σ) ∧ ((k = 0 ∧ f v σ = some r) ∨ (k ≠ 0 ∧ r = (k, 0, σ))) := by
  match x, h with
  | some (0, v, σ), h => exact ⟨0, v, σ, rfl, Or.inl ⟨rfl, h⟩⟩
  | some (k + 1, v, σ), h => exact ⟨k + 1, v, σ, rfl, Or.inr ⟨by omega, (Option.some.inj h).symm⟩⟩
abbrev QXi (Y : Sys) (Γ : Wc) (ad : Nat → Nat → Nat) (A : Nat → Prop) (q : Xe) : Array Value → State → Outcome → State → Prop := va_Qi (fun r' (_ : Unit) => q.1 = 0 ∧ r' = q.2.1) (fun _ t => PX Y Γ ad q.2.2 t.heap) A
abbrev QXv (Y : Sys) (Γ : Wc) (ad : Nat → Nat → Nat) (A : Nat → Prop) (q : Xe) : Array Value → State → Outcome → State → Prop := va_Qv (fun _ : Unit => q.1 = 0) (fun _ t => PX Y Γ ad q.2.2 t.heap) A
abbrev XXe (Y : Sys) (Γ : Wc) (ad : Nat → Nat → Nat) (A : Nat → Prop) (q : Xe) : String → State → State → Prop := vx_X (fun _ : Unit => q.1 ≠ 0) (fun E _ t => exN q.1 = E ∧ PX Y Γ ad q.2.2 t.heap) A
abbrev rmx (fr lo k : Nat) : Room := { frames := fr, cells := k, slots := 6 * k, locals := lo }
def MXi (l : Launch) (Y : Sys) (Γ : Wc) (ad : Nat → Nat → Nat) (A : Nat → Prop) (y : MethodName) (cc : ByteArray) (nL : Nat) (ret : Option FieldType) (fr lo k : Nat) (av : List Value) (σ : Sig) (q : Xe) : Prop :=
  vx_Met l y (Wsd y cc nL ret) (rmx fr lo k) (va_Pc av (Pre Y Γ ad A σ)) (QXi Y Γ ad A q) (XXe Y Γ ad A q) k (6 * k) A
def MXv (l : Launch) (Y : Sys) (Γ : Wc) (ad : Nat → Nat → Nat) (A : Nat → Prop) (y : MethodName) (cc : ByteArray) (nL : Nat) (fr lo k : Nat) (av : List Value) (σ : Sig) (q : Xe) : Prop :=
  vx_Met l y (Wsd y cc nL none) (rmx fr lo k) (va_Pc av (Pre Y Γ ad A σ)) (QXv Y Γ ad A q) (XXe Y Γ ad A q) k (6 * k) A
theorem MXi.of {l : Launch} {Y : Sys} {Γ : Wc} {ad : Nat → Nat → Nat} {A : Nat → Prop} {y : MethodName} {cc : ByteArray} {nL : Nat} {ret : Option FieldType} {fr lo k : Nat} {av : List Value} {σ : Sig} {q : Xe} (hy : plainName y.cls = true) (hn : (lg_sl av).length ≤ nL)
    (body : ∀ (p : Program) (e : Env) (s : State) (m : MethodId) (args : Array Value) (below : List Frame) (meth : Method) (c : Code) (ls : Array Slot), CX Y Γ ad A y.cls cc nL p s m args c → (∀ x ∈ c.exceptionTable.toList, False) → meth.sig.returnType = ret → meth.locks = false → PS Y Γ ad A s σ s.heap [] → lv_has ls nL (lv_args 0 av) → W p l e (rmx fr lo k) s m args below meth c s.heap [] 0 0 (vx_MQ below (QXi Y Γ ad A q) (XXe Y Γ ad A q) args s k (6 * k) A) (F0 m 0 ls [])) : MXi l Y Γ ad A y cc nL ret fr lo k av σ q := by
  refine vx_ofW (cc := cc) (maxL := nL) (ret := ret) hy rfl ?_
  intro p e s m args below meth c s₁ B hml ht hv
  obtain ⟨rfl, hX, hK, hA, hZ, hV⟩ := hv
  rw [lg_entry_eq]
  exact body p e s m _ below meth c _ ⟨B.exec, B.bytes, hml, findClass_of_methodNamed B.named, fun w hw => atoms_spec (ws := Wsd y cc nL ret) B.pre w (List.mem_cons_of_mem _ hw), hK, hA, hZ, hV⟩ ht B.returns B.notSynchronized ⟨hX, va_S.rf⟩ (lv_entry av hn)
theorem MXv.of {l : Launch} {Y : Sys} {Γ : Wc} {ad : Nat → Nat → Nat} {A : Nat → Prop} {y : MethodName} {cc : ByteArray} {nL : Nat} {fr lo k : Nat} {av : List Value} {σ : Sig} {q : Xe} (hy : plainName y.cls = true) (hn : (lg_sl av).length ≤ nL)
    (body : ∀ (p : Program) (e : Env) (s : State) (m : MethodId) (args : Array Value) (below : List Frame) (meth : Method) (c : Code) (ls : Array Slot), CX Y Γ ad A y.cls cc nL p s m args c → (∀ x ∈ c.exceptionTable.toList, False) → meth.sig.returnType = none → meth.locks = false → PS Y Γ ad A s σ s.heap [] → lv_has ls nL (lv_args 0 av) → W p l e (rmx fr lo k) s m args below meth c s.heap [] 0 0 (vx_MQ below (QXv Y Γ ad A q) (XXe Y Γ ad A q) args s k (6 * k) A) (F0 m 0 ls [])) : MXv l Y Γ ad A y cc nL fr lo k av σ q := by
  refine vx_ofW (cc := cc) (maxL := nL) (ret := none) hy rfl ?_
  intro p e s m args below meth c s₁ B hml ht hv
  obtain ⟨rfl, hX, hK, hA, hZ, hV⟩ := hv
  rw [lg_entry_eq]
  exact body p e s m _ below meth c _ ⟨B.exec, B.bytes, hml, findClass_of_methodNamed B.named, fun w hw => atoms_spec (ws := Wsd y cc nL none) B.pre w (List.mem_cons_of_mem _ hw), hK, hA, hZ, hV⟩ ht B.returns B.notSynchronized ⟨hX, va_S.rf⟩ (lv_entry av hn)
section FRX
variable {p : Program} {l : Launch} {e : Env} {R : Room} {s : State} {m : MethodId} {args : Array Value} {below : List Frame} {meth : Method} {c : Code} {H : Heap} {locs : List Loc} {cells slots : Nat}
variable {cc : ByteArray} {pc nL MC MS : Nat} {ls : Array Slot} {rest st : List Value} {Y : Sys} {Γ : Wc} {ad : Nat → Nat → Nat} {A : Nat → Prop} {σ : Sig} {own : String} {q : Xe} {Qc : Array Value → State → Outcome → State → Prop}
/-- an exception of a callee goes on to the caller -/
theorem x_out (cx : CX Y Γ ad A own cc nL p s m args c) (hnt : ∀ x ∈ c.exceptionTable.toList, False) (hk : meth.locks = false) {k : Nat} {σ1 : Sig} {E : String} {ce : Cell} {q9 : Addr} {t : State} (hq : q = (k, 0, σ1)) (hk0 : k ≠ 0) (hb : exN k = E ∧ PX Y Γ ad σ1 t.heap) (ht : t.heap = H) (hS : va_S A s.heap H locs) (hce : H[q9]? = some ce) (hcv : ce.vm = .none) (hcl : s.vm.findClass E = some ce.cls) (hc : cells ≤ MC ∧ slots ≤ MS) : vx_W p l e R s m args below meth c H locs cells slots (vx_MQ below Qc (XXe Y Γ ad A q) args s MC MS A) (F0 m pc ls rest) q9 := by
  subst hq
  refine vx_out (fun x hx => (hnt x hx).elim) hk hce hcv hcl (fun t1 ht1 _ => ⟨(), hk0, ⟨hb.1, ?_⟩, hS.F ht1⟩) hS.2.2 hc.1 hc.2
  show PX Y Γ ad σ1 t1.heap
  rw [ht1, ← ht]
  exact hb.2
theorem x_callSv (cx : CX Y Γ ad A own cc nL p s m args c) (hP : PS Y Γ ad A s σ H locs) (hnt : ∀ x ∈ c.exceptionTable.toList, False) (hk : meth.locks = false) {fr lo k maxL index : Nat} {y : MethodName} {bytes : ByteArray} {As : List Value} {X : Option Xe} {B : Int32 → Sig → Option Xe} (hF : bnx X B = some q) (hM : ∀ z, X = some z → MXv l Y Γ ad A y bytes maxL fr lo k As σ z) (hw : MWs own index y bytes maxL none As.length) (hR : fr + 1 ≤ R.frames ∧ 8 + (maxL + 11) + lo ≤ R.locals) (hst : st = As.reverse ++ rest) (hrs : (rest.map fun v => v.category).sum ≤ 8) (hsz : ls.size = nL) (hcs : cells + k ≤ R.cells ∧ slots + 6 * k ≤ R.slots) (hcm : cells + k ≤ MC ∧ slots + 6 * k ≤ MS) (d : decode cc pc = .ok (.invokestatic index, 3))
    (kk : ∀ (v : Int32) (σ1 : Sig) (H1 : Heap) (locs1 : List Loc), PS Y Γ ad A s σ1 H1 locs1 → B v σ1 = some q → W p l e R s m args below meth c H1 locs1 (cells + k) (slots + 6 * k) (vx_MQ below Qc (XXe Y Γ ad A q) args s MC MS A) (F0 m (pc + 3) ls rest)) : W p l e R s m args below meth c H locs cells slots (vx_MQ below Qc (XXe Y Γ ad A q) args s MC MS A) (F0 m pc ls st) := by
  obtain ⟨j, v, σ1, hX, hj⟩ := bnx_some hF
  refine vx_callv (vx_runS (As := As) (rest := rest) (fixOf cx) (hM _ hX) (hw.callB cx hR) ⟨Pre.blind, fun U hU hW => ⟨rfl, cx.pre hP hU hW⟩⟩ rfl rfl hsz hst (lv_room hrs) d hcs) hP.2 (fun q _ h => h) (fun q h => h) (fun q _ h => h) (fun E ce q9 u t H1 locs1 ht hvm hu hb hz hf hS hce hcv hcl => ?_) (fun u t H1 locs1 ht hvm hw hB hz1 hk1 hS => ?_)
  · rcases hj with ⟨h0, -⟩ | ⟨h0, h1⟩
    · exact absurd h0 hu
    · exact x_out cx hnt hk h1 h0 hb ht hS hce hcv hcl hcm
  · rcases hj with ⟨h0, h1⟩ | ⟨h0, -⟩
    · exact kk v σ1 H1 locs1 ⟨by rw [← ht]; exact hB, hS⟩ h1
    · exact absurd hw h0
theorem x_callVv (cx : CX Y Γ ad A own cc nL p s m args c) (hP : PS Y Γ ad A s σ H locs) (hnt : ∀ x ∈ c.exceptionTable.toList, False) (hk : meth.locks = false) {fr lo k maxL index g k0 ci N : Nat} {y : MethodName} {bytes : ByteArray} {As fs : List Value} {T : u_T} {X : Option Xe} {B : Int32 → Sig → Option Xe} (hF : bnx X B = some q) (hM : ∀ z, X = some z → MXv l Y Γ ad A y bytes maxL fr lo k (.ref (ad g k0) :: As) σ z) (hw : MWv own index y bytes maxL none As.length) (hR : fr + 1 ≤ R.frames ∧ 8 + (maxL + 11) + lo ≤ R.locals) (hd : Y.2 g k0) (he : Y.1 Γ.2.1 ad g k0 (σ g k0) = .inr (ci, fs)) (hc : vwCl[ci]? = some (y.cls, T, N)) (hst : st = As.reverse ++ .ref (ad g k0) :: rest) (hrs : (rest.map fun v => v.category).sum ≤ 8) (hsz : ls.size = nL) (hcs : cells + k ≤ R.cells ∧ slots + 6 * k ≤ R.slots) (hcm : cells + k ≤ MC ∧ slots + 6 * k ≤ MS) (d : decode cc pc = .ok (.invokevirtual index, 3))
    (kk : ∀ (v : Int32) (σ1 : Sig) (H1 : Heap) (locs1 : List Loc), PS Y Γ ad A s σ1 H1 locs1 → B v σ1 = some q → W p l e R s m args below meth c H1 locs1 (cells + k) (slots + 6 * k) (vx_MQ below Qc (XXe Y Γ ad A q) args s MC MS A) (F0 m (pc + 3) ls rest)) : W p l e R s m args below meth c H locs cells slots (vx_MQ below Qc (XXe Y Γ ad A q) args s MC MS A) (F0 m pc ls st) := by
  obtain ⟨j, v, σ1, hX, hj⟩ := bnx_some hF
  refine vx_callv (vx_runV (As := As) (rest := rest) (fixOf cx) (hM _ hX) (hw.callB cx hR) ⟨Pre.blind, recvOf cx hP hd he hc, fun U hU hW => ⟨rfl, cx.pre hP hU hW⟩⟩ rfl rfl hsz hst (lv_room hrs) d hcs) hP.2 (fun q _ h => h) (fun q h => h) (fun q _ h => h) (fun E ce q9 u t H1 locs1 ht hvm hu hb hz hf hS hce hcv hcl => ?_) (fun u t H1 locs1 ht hvm hw hB hz1 hk1 hS => ?_)
  · rcases hj with ⟨h0, -⟩ | ⟨h0, h1⟩
    · exact absurd h0 hu
    · exact x_out cx hnt hk h1 h0 hb ht hS hce hcv hcl hcm
  · rcases hj with ⟨h0, h1⟩ | ⟨h0, -⟩
    · exact kk v σ1 H1 locs1 ⟨by rw [← ht]; exact hB, hS⟩ h1
    · exact absurd hw h0
theorem x_iret (cx : CX Y Γ ad A own cc nL p s m args c) (hP : PS Y Γ ad A s σ H locs) (hr : meth.sig.returnType = some .int) (hlocks : meth.locks = false) {v : Int32} (hcm : cells ≤ MC ∧ slots ≤ MS) (d : decode cc pc = .ok (.ireturn, 1)) (hF : some (0, v, σ) = some q) : W p l e R s m args below meth c H locs cells slots (vx_MQ below (QXi Y Γ ad A q) (XXe Y Γ ad A q) args s MC MS A) (F0 m pc ls [.int v]) := by
  cases hF
  refine W.widen hcm.1 hcm.2 (vx_ret ?_)
  exact W.iret (v := v) cx.1 cx.2.1 hr (fun t ht hW => ⟨⟨v, (), rfl, ⟨rfl, rfl⟩, by show PX Y Γ ad σ t.heap; rw [ht]; exact hP.1⟩, hP.2.F ht⟩) hP.2.2.2 d hlocks
theorem x_zret (cx : CX Y Γ ad A own cc nL p s m args c) (hP : PS Y Γ ad A s σ H locs) {ty : FieldType} (hr : meth.sig.returnType = some ty) (hlocks : meth.locks = false) {v : Int32} (hn : narrow ty (.int v) = .int v) (hcm : cells ≤ MC ∧ slots ≤ MS) (d : decode cc pc = .ok (.ireturn, 1)) (hF : some (0, v, σ) = some q) : W p l e R s m args below meth c H locs cells slots (vx_MQ below (QXi Y Γ ad A q) (XXe Y Γ ad A q) args s MC MS A) (F0 m pc ls [.int v]) := by
  cases hF
  refine W.widen hcm.1 hcm.2 (vx_ret ?_)
  exact W.zret (v := v) cx.1 cx.2.1 hr hn (fun t ht hW => ⟨⟨v, (), rfl, ⟨rfl, rfl⟩, by show PX Y Γ ad σ t.heap; rw [ht]; exact hP.1⟩, hP.2.F ht⟩) hP.2.2.2 d hlocks
theorem x_vret (cx : CX Y Γ ad A own cc nL p s m args c) (hP : PS Y Γ ad A s σ H locs) (hr : meth.sig.returnType = none) (hlocks : meth.locks = false) (hcm : cells ≤ MC ∧ slots ≤ MS) (d : decode cc pc = .ok (.return_, 1)) (hF : some (0, 0, σ) = some q) : W p l e R s m args below meth c H locs cells slots (vx_MQ below (QXv Y Γ ad A q) (XXe Y Γ ad A q) args s MC MS A) (F0 m pc ls []) := by
  cases hF
  refine W.widen hcm.1 hcm.2 (vx_ret ?_)
  exact W.vret cx.1 cx.2.1 hr (fun t ht hW => ⟨⟨(), rfl, rfl, by show PX Y Γ ad σ t.heap; rw [ht]; exact hP.1⟩, hP.2.F ht⟩) hP.2.2.2 d hlocks
abbrev exNames : List String := ["java/lang/RuntimeException", "java/lang/Exception"]
/-- the words of a throw of class E from class own, whose constructor's link is ic -/
def TW (own : String) (ik ic : Nat) (E : String) : Prop := Cond.classLink own ik E ∈ gw ∧ Cond.initialized E ∈ gw ∧ (∀ w ∈ (vx_atS own ic E exNames).filter goodWord, w ∈ lw_tbl) ∧ (∀ w ∈ (vx_atS own ic E exNames).filter (fun w => !goodWord w), w ∈ tables_1 ∧ (w.onTables && w.keepsFace) = true) ∧ (∀ w ∈ Cond.classLink own ik E :: Cond.initialized E :: vx_atS own ic E exNames, vx_ot w = true) ∧ Bundle.fit E = true
theorem TW.at {ik ic : Nat} {E : String} (h : TW own ik ic E) (cx : CX Y Γ ad A own cc nL p s m args c) : ∀ w ∈ vx_atS own ic E exNames, w.before args s = true := by
  intro w hw
  by_cases g : goodWord w = true
  · exact cx.hts w (gw_of (h.2.2.1 w (List.mem_filter.mpr ⟨hw, g⟩)) g)
  · have g2 : goodWord w = false := by cases hg : goodWord w; rfl; exact absurd hg g
    obtain ⟨h1, h2⟩ := h.2.2.2.1 w (List.mem_filter.mpr ⟨hw, by rw [g2]; rfl⟩)
    have h3 := cx.hV.1 w (List.mem_filter.mpr ⟨h1, h2⟩)
    simp only [Bool.and_eq_true] at h2
    exact va_tabs h2.1 rfl h3
theorem x_throwW (cx : CX Y Γ ad A own cc nL p s m args c) (hP : PS Y Γ ad A s σ H locs) (hl : l.stackTraces = false) (hnt : ∀ x ∈ c.exceptionTable.toList, False) (hk : meth.locks = false) {k ik is ic : Nat} {text : String} (hk0 : k ≠ 0) (hT : TW own ik ic (exN k)) (hmsg : (own, is, text) ∈ msgT) (hsz : ls.size = nL)
    (d0 : decode cc pc = .ok (.new ik, 3)) (d3 : decode cc (pc + 3) = .ok (.dup, 1)) (d4 : decode cc (pc + 4) = .ok (.ldc_w is, 3)) (d7 : decode cc (pc + 7) = .ok (.invokespecial ic, 3)) (d10 : decode cc (pc + 10) = .ok (.athrow, 1))
    (hR : 5 < R.frames ∧ (rest.map fun v => v.category).sum + 82 ≤ R.locals) (hcs : cells + 1 ≤ R.cells ∧ slots + 6 ≤ R.slots) (hcm : cells + 1 ≤ MC ∧ slots + 6 ≤ MS) (hF : some (k, 0, σ) = some q) : W p l e R s m args below meth c H locs cells slots (vx_MQ below Qc (XXe Y Γ ad A q) args s MC MS A) (F0 m pc ls rest) := by
  cases hF
  obtain ⟨sa, hsa⟩ := cx.hV.2.2.1 _ hmsg
  exact vx_throwSW (names := exNames) cx.1 cx.2.1 hl cx.hown hT.2.2.2.2.2 (by decide +kernel) (cx.hts _ hT.1) (cx.hts _ hT.2.1) hsa (hT.at cx) hT.2.2.2.2.1 cx.hZ.1 cx.hZ.2.1 hP.2 (by rw [hsz, cx.2.2.1]) d0 d3 d4 d7 d10 (fun x hx => (hnt x hx).elim) hR.1 hR.2 hcs.1 hcs.2 hk
    (fun t hvm hz hq => ⟨(), hk0, ⟨rfl, fun g c hd => (hP.1 g c hd).kept (hq _ (hP.1 g c hd).lt)⟩, ⟨Nat.le_trans hP.2.1 hz, fun q h1 h2 => (hq q (Nat.lt_of_lt_of_le h1 hP.2.1)).trans (hP.2.2.1 q h1 h2)⟩⟩) hP.2.2.2 hcm.1 hcm.2
theorem x_throwL (cx : CX Y Γ ad A own cc nL p s m args c) (hP : PS Y Γ ad A s σ H locs) (hl : l.stackTraces = false) (hnt : ∀ x ∈ c.exceptionTable.toList, False) (hk : meth.locks = false) {k ik is ic : Nat} {text : String} (hk0 : k ≠ 0) (hT : TW own ik ic (exN k)) (hmsg : (own, is, text) ∈ msgT) (hsz : ls.size = nL)
    (d0 : decode cc pc = .ok (.new ik, 3)) (d3 : decode cc (pc + 3) = .ok (.dup, 1)) (d4 : decode cc (pc + 4) = .ok (.ldc is, 2)) (d6 : decode cc (pc + 6) = .ok (.invokespecial ic, 3)) (d9 : decode cc (pc + 9) = .ok (.athrow, 1))
    (hR : 5 < R.frames ∧ (rest.map fun v => v.category).sum + 82 ≤ R.locals) (hcs : cells + 1 ≤ R.cells ∧ slots + 6 ≤ R.slots) (hcm : cells + 1 ≤ MC ∧ slots + 6 ≤ MS) (hF : some (k, 0, σ) = some q) : W p l e R s m args below meth c H locs cells slots (vx_MQ below Qc (XXe Y Γ ad A q) args s MC MS A) (F0 m pc ls rest) := by
  cases hF
  obtain ⟨sa, hsa⟩ := cx.hV.2.2.1 _ hmsg
  exact vx_throwS (names := exNames) cx.1 cx.2.1 hl cx.hown hT.2.2.2.2.2 (by decide +kernel) (cx.hts _ hT.1) (cx.hts _ hT.2.1) hsa (hT.at cx) hT.2.2.2.2.1 cx.hZ.1 cx.hZ.2.1 hP.2 (by rw [hsz, cx.2.2.1]) d0 d3 d4 d6 d9 (fun x hx => (hnt x hx).elim) hR.1 hR.2 hcs.1 hcs.2 hk
    (fun t hvm hz hq => ⟨(), hk0, ⟨rfl, fun g c hd => (hP.1 g c hd).kept (hq _ (hP.1 g c hd).lt)⟩, ⟨Nat.le_trans hP.2.1 hz, fun q h1 h2 => (hq q (Nat.lt_of_lt_of_le h1 hP.2.1)).trans (hP.2.2.1 q h1 h2)⟩⟩) hP.2.2.2 hcm.1 hcm.2
end FRX
theorem tw_iae : TW RX11 381 385 (exN 1) := ⟨gw_t (tin5 (List.mem_of_getElem? (i := 94) rfl)) rfl, gw_t (tin1 (List.mem_of_getElem? (i := 25) rfl)) rfl, by decide +kernel, by decide +kernel, by decide +kernel, by decide +kernel⟩
theorem tw_ioobe : TW RX11 364 368 (exN 2) := ⟨gw_t (tin5 (List.mem_of_getElem? (i := 195) rfl)) rfl, gw_t (tin1 (List.mem_of_getElem? (i := 24) rfl)) rfl, by decide +kernel, by decide +kernel, by decide +kernel, by decide +kernel⟩
theorem tw_ise : TW RX11 386 390 (exN 3) := ⟨gw_t (tin5 (List.mem_of_getElem? (i := 165) rfl)) rfl, gw_t (tin1 (List.mem_of_getElem? (i := 26) rfl)) rfl, by decide +kernel, by decide +kernel, by decide +kernel, by decide +kernel⟩
