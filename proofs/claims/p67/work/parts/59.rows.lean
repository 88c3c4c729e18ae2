/-! rows for the law's own methods: calls that don't throw, longs, methods with an exception table -/
theorem nt0 {k : Nat} {v r : Int32} {σ σ1 : Sig} {P : Prop} (hk : k ≠ 0) (h : some (k, v, σ) = some ((0 : Nat), r, σ1)) : P := absurd (congrArg Prod.fst (Option.some.inj h)) hk
theorem nt1 {v r : Int32} {σ σ1 : Sig} (h : some ((0 : Nat), v, σ) = some (0, r, σ1)) : some (v, σ) = some (r, σ1) := by cases h; rfl
theorem nt2 {v r : Int32} {σ σ1 : Sig} (h : some ((0 : Nat), v, σ) = some (0, r, σ1)) : some σ = some σ1 := by cases h; rfl
theorem bnx_nt {x : Option Xe} {f : Int32 → Sig → Option Xe} {r : Int32} {σ1 : Sig} (h : bnx x f = some (0, r, σ1)) : ∃ v σ', x = some (0, v, σ') ∧ f v σ' = some (0, r, σ1) := by
  obtain ⟨k, v, σ', hx, h1⟩ := bnx_some h
  rcases h1 with ⟨rfl, h1⟩ | ⟨h0, h1⟩
  · exact ⟨v, σ', hx, h1⟩
  · exact absurd (congrArg Prod.fst h1).symm h0
def wn (x : Option Xe) : Option (Int32 × Sig) := match x with
  | some (0, v, σ) => some (v, σ)
  | _ => none
theorem wn_some {x : Option Xe} {v : Int32} {σ : Sig} (h : wn x = some (v, σ)) : x = some (0, v, σ) := by
  match x, h with
  | some (0, v', σ'), h => cases h; rfl
theorem wn_ok {x : Option Xe} {v : Int32} {σ : Sig} (h : x = some (0, v, σ)) : wn x = some (v, σ) := by subst h; rfl
def bnl {β : Type} (x : Option (Int64 × Sig)) (f : Int64 → Sig → Option β) : Option β := match x with
  | some (a, b) => f a b
  | none => none
theorem bnl_some {β : Type} {x : Option (Int64 × Sig)} {f : Int64 → Sig → Option β} {r : β} (h : bnl x f = some r) : ∃ a b, x = some (a, b) ∧ f a b = some r := by
  cases x with
  | none => cases h
  | some q => exact ⟨q.1, q.2, rfl, h⟩
theorem bnl_eq {β : Type} {x : Option (Int64 × Sig)} {f : Int64 → Sig → Option β} {a : Int64} {b : Sig} (h : x = some (a, b)) : bnl x f = f a b := by subst h; rfl
abbrev QL (Y : Sys) (Γ : Wc) (ad : Nat → Nat → Nat) (A : Nat → Prop) (below : List Frame) (args : Array Value) (s : State) (r : Int64) (σ' : Sig) : State → Prop := MQ below (va_Ql (fun r' (_ : Unit) => r' = r) (fun _ t => PX Y Γ ad σ' t.heap) A) args s 0 0 A
def ML (l : Launch) (Y : Sys) (Γ : Wc) (ad : Nat → Nat → Nat) (A : Nat → Prop) (y : MethodName) (cc : ByteArray) (nL : Nat) (fr lo : Nat) (av : List Value) (σ : Sig) (r : Int64) (σ' : Sig) : Prop :=
  Met l y (Wsd y cc nL (some .long)) { frames := fr, cells := 0, slots := 0, locals := lo } (va_Pc av (Pre Y Γ ad A σ)) (va_Ql (fun r' (_ : Unit) => r' = r) (fun _ t => PX Y Γ ad σ' t.heap) A) 0 0 A
theorem ML.of {l : Launch} {Y : Sys} {Γ : Wc} {ad : Nat → Nat → Nat} {A : Nat → Prop} {y : MethodName} {cc : ByteArray} {nL : Nat} {fr lo : Nat} {av : List Value} {σ σ' : Sig} {r : Int64} (hy : plainName y.cls = true) (hn : (lg_sl av).length ≤ nL)
    (body : ∀ (p : Program) (e : Env) (s : State) (m : MethodId) (args : Array Value) (below : List Frame) (meth : Method) (c : Code) (ls : Array Slot), CX Y Γ ad A y.cls cc nL p s m args c → meth.sig.returnType = some .long → meth.locks = false → PS Y Γ ad A s σ s.heap [] → lv_has ls nL (lv_args 0 av) → W p l e { frames := fr, cells := 0, slots := 0, locals := lo } s m args below meth c s.heap [] 0 0 (MQ below (va_Ql (fun r' (_ : Unit) => r' = r) (fun _ t => PX Y Γ ad σ' t.heap) A) args s 0 0 A) (F0 m 0 ls [])) : ML l Y Γ ad A y cc nL fr lo av σ r σ' := by
  refine Met.ofW (cc := cc) (maxL := nL) (ret := some .long) hy rfl ?_
  intro p e s m args below meth c s₁ B hml hv
  obtain ⟨rfl, hX, hK, hA, hZ, hV⟩ := hv
  rw [lg_entry_eq]
  exact body p e s m _ below meth c _ ⟨B.exec, B.bytes, hml, findClass_of_methodNamed B.named, fun w hw => atoms_spec (ws := Wsd y cc nL (some .long)) B.pre w (List.mem_cons_of_mem _ hw), hK, hA, hZ, hV⟩ B.returns B.notSynchronized ⟨hX, va_S.rf⟩ (lv_entry av hn)
/-- a method with an exception table, where nothing is thrown -/
def MIw (l : Launch) (Y : Sys) (Γ : Wc) (ad : Nat → Nat → Nat) (A : Nat → Prop) (y : MethodName) (cc : ByteArray) (nL : Nat) (ret : Option FieldType) (hh : List (Nat × Nat × Nat × Nat)) (fr lo : Nat) (av : List Value) (σ : Sig) (r : Int32) (σ' : Sig) : Prop :=
  Met l y (.codeWith y cc nL ret hh :: gw) { frames := fr, cells := 0, slots := 0, locals := lo } (va_Pc av (Pre Y Γ ad A σ)) (va_Qi (fun r' (_ : Unit) => r' = r) (fun _ t => PX Y Γ ad σ' t.heap) A) 0 0 A
theorem MIw.of {l : Launch} {Y : Sys} {Γ : Wc} {ad : Nat → Nat → Nat} {A : Nat → Prop} {y : MethodName} {cc : ByteArray} {nL : Nat} {ret : Option FieldType} {hh : List (Nat × Nat × Nat × Nat)} {fr lo : Nat} {av : List Value} {σ σ' : Sig} {r : Int32} (hy : plainName y.cls = true) (hn : (lg_sl av).length ≤ nL)
    (body : ∀ (p : Program) (e : Env) (s : State) (m : MethodId) (args : Array Value) (below : List Frame) (meth : Method) (c : Code) (ls : Array Slot), CX Y Γ ad A y.cls cc nL p s m args c → meth.sig.returnType = ret → meth.locks = false → PS Y Γ ad A s σ s.heap [] → lv_has ls nL (lv_args 0 av) → W p l e { frames := fr, cells := 0, slots := 0, locals := lo } s m args below meth c s.heap [] 0 0 (MQ below (va_Qi (fun r' (_ : Unit) => r' = r) (fun _ t => PX Y Γ ad σ' t.heap) A) args s 0 0 A) (F0 m 0 ls [])) : MIw l Y Γ ad A y cc nL ret hh fr lo av σ r σ' := by
  refine va_MetW (cc := cc) (maxL := nL) (ret := ret) (hh := hh) hy rfl ?_
  intro p e s m args below meth c s₁ B hml hv
  obtain ⟨rfl, hX, hK, hA, hZ, hV⟩ := hv
  rw [lg_entry_eq]
  exact body p e s m _ below meth c _ ⟨B.exec, B.bytes, hml, findClass_of_methodNamed B.named, fun w hw => atoms_spec (ws := .codeWith y cc nL ret hh :: gw) B.pre w (List.mem_cons_of_mem _ hw), hK, hA, hZ, hV⟩ B.returns B.notSynchronized ⟨hX, va_S.rf⟩ (lv_entry av hn)
def MWz (own : String) (index : Nat) (y : MethodName) (bytes : ByteArray) (maxL : Nat) (ret : Option FieldType) (hh : List (Nat × Nat × Nat × Nat)) (n : Nat) : Prop := Cond.methodLink own index y ∈ gw ∧ Cond.static y ∈ gw ∧ Cond.initialized y.cls ∈ gw ∧ Cond.codeWith y bytes maxL ret hh ∈ gw ∧ y.cls ≠ "java/lang/invoke/MethodHandle" ∧ y.cls ≠ "java/lang/invoke/VarHandle" ∧ (parseMethodDescriptor y.desc).map (fun d => d.parameters.length) = some n
section FR9
variable {p : Program} {l : Launch} {e : Env} {R : Room} {s : State} {m : MethodId} {args : Array Value} {below : List Frame} {meth : Method} {c : Code} {H : Heap} {locs : List Loc} {cells slots : Nat} {Q : State → Prop}
variable {cc : ByteArray} {pc nL : Nat} {ls : Array Slot} {rest st : List Value} {Y : Sys} {Γ : Wc} {ad : Nat → Nat → Nat} {A : Nat → Prop} {σ σ' : Sig} {own : String} {ρ : Type} {res : ρ}
theorem MWz.callB {index maxL n fr lo mc ms : Nat} {y : MethodName} {bytes : ByteArray} {ret : Option FieldType} {hh : List (Nat × Nat × Nat × Nat)} (cx : CX Y Γ ad A own cc nL p s m args c) (h : MWz own index y bytes maxL ret hh n) (hR : fr + 1 ≤ R.frames ∧ 8 + (maxL + 11) + lo ≤ R.locals) : vx_CSW R s args own index y bytes maxL ret hh (.codeWith y bytes maxL ret hh :: gw) { frames := fr, cells := mc, slots := ms, locals := lo } mc ms n := by
  obtain ⟨h1, h2, h3, h4, h6, h7, h8⟩ := h
  exact vx_cwSW n cx.hts (gw_app (a := [.methodLink own index y, .static y, .initialized y.cls]) (fun w hw => by simp only [List.mem_cons, List.not_mem_nil, or_false] at hw; rcases hw with rfl | rfl | rfl <;> assumption) (gw_cons h4)) rfl rfl rfl ⟨h6, h7, h8⟩ hR
theorem r_callWi (cx : CX Y Γ ad A own cc nL p s m args c) (hP : PS Y Γ ad A s σ H locs) {fr lo maxL index : Nat} {y : MethodName} {bytes : ByteArray} {ret : Option FieldType} {hh : List (Nat × Nat × Nat × Nat)} {r : Int32} {As : List Value} (hM : MIw l Y Γ ad A y bytes maxL ret hh fr lo As σ r σ') (hw : MWz own index y bytes maxL ret hh As.length) (hR : fr + 1 ≤ R.frames ∧ 8 + (maxL + 11) + lo ≤ R.locals) (hst : st = As.reverse ++ rest) (hrs : (rest.map fun v => v.category).sum ≤ 8) (hsz : ls.size = nL) (hcs : cells ≤ R.cells ∧ slots ≤ R.slots) (d : decode cc pc = .ok (.invokestatic index, 3))
    (kk : ∀ (H1 : Heap) (locs1 : List Loc), PS Y Γ ad A s σ' H1 locs1 → W p l e R s m args below meth c H1 locs1 cells slots Q (F0 m (pc + 3) ls (.int r :: rest))) : W p l e R s m args below meth c H locs cells slots Q (F0 m pc ls st) := by
  refine va_calli (vx_runSW (As := As) (rest := rest) (fixOf cx) hM (hw.callB cx hR) ⟨Pre.blind, fun U hU hW => ⟨rfl, cx.pre hP hU hW⟩⟩ rfl rfl hsz hst (lv_room hrs) d hcs) hP.2 (fun q _ h => h) (fun q h => h) (fun r' u t H1 locs1 ht hvm hw hB hz1 hk1 hS => ?_)
  subst hw
  exact kk H1 locs1 ⟨by rw [← ht]; exact hB, hS⟩
theorem r_callSl (cx : CX Y Γ ad A own cc nL p s m args c) (hP : PS Y Γ ad A s σ H locs) {fr lo maxL index : Nat} {y : MethodName} {bytes : ByteArray} {r : Int64} {As : List Value} (hM : ML l Y Γ ad A y bytes maxL fr lo As σ r σ') (hw : MWs own index y bytes maxL (some .long) As.length) (hR : fr + 1 ≤ R.frames ∧ 8 + (maxL + 11) + lo ≤ R.locals) (hst : st = As.reverse ++ rest) (hrs : (rest.map fun v => v.category).sum ≤ 8) (hsz : ls.size = nL) (hcs : cells ≤ R.cells ∧ slots ≤ R.slots) (d : decode cc pc = .ok (.invokestatic index, 3))
    (kk : ∀ (H1 : Heap) (locs1 : List Loc), PS Y Γ ad A s σ' H1 locs1 → W p l e R s m args below meth c H1 locs1 cells slots Q (F0 m (pc + 3) ls (.long r :: rest))) : W p l e R s m args below meth c H locs cells slots Q (F0 m pc ls st) := by
  refine va_calll (va_runS (As := As) (rest := rest) (fixOf cx) hM (hw.callB cx hR) ⟨Pre.blind, fun U hU hW => ⟨rfl, cx.pre hP hU hW⟩⟩ rfl rfl hsz hst (lv_room hrs) d hcs) hP.2 (fun q _ h => h) (fun q h => h) (fun r' u t H1 locs1 ht hvm hw hB hz1 hk1 hS => ?_)
  subst hw
  exact kk H1 locs1 ⟨by rw [← ht]; exact hB, hS⟩
theorem r_i2l (cx : CX Y Γ ad A own cc nL p s m args c) {x : Int32} (d : decode cc pc = .ok (.i2l, 1)) {B : Int64 → Option ρ} (hF : nm x.toInt64 B = some res) (k : ∀ v, B v = some res → W p l e R s m args below meth c H locs cells slots Q (F0 m (pc + 1) ls (.long v :: rest))) : W p l e R s m args below meth c H locs cells slots Q (F0 m pc ls (.int x :: rest)) := lv_i2l cx.1 cx.2.1 d rfl (k _ hF)
theorem r_ladd (cx : CX Y Γ ad A own cc nL p s m args c) {x y : Int64} (d : decode cc pc = .ok (.ladd, 1)) {B : Int64 → Option ρ} (hF : nm (x + y) B = some res) (k : ∀ v, B v = some res → W p l e R s m args below meth c H locs cells slots Q (F0 m (pc + 1) ls (.long v :: rest))) : W p l e R s m args below meth c H locs cells slots Q (F0 m pc ls (.long y :: .long x :: rest)) := lv_ladd cx.1 cx.2.1 d (k _ hF)
theorem r_lmul (cx : CX Y Γ ad A own cc nL p s m args c) {x y : Int64} (d : decode cc pc = .ok (.lmul, 1)) {B : Int64 → Option ρ} (hF : nm (x * y) B = some res) (k : ∀ v, B v = some res → W p l e R s m args below meth c H locs cells slots Q (F0 m (pc + 1) ls (.long v :: rest))) : W p l e R s m args below meth c H locs cells slots Q (F0 m pc ls (.long y :: .long x :: rest)) := lv_lmul cx.1 cx.2.1 d (k _ hF)
theorem r_lcmp (cx : CX Y Γ ad A own cc nL p s m args c) {x y : Int64} (d : decode cc pc = .ok (.lcmp, 1)) {B : Int32 → Option ρ} (hF : nm (lg_cmp x y) B = some res) (k : ∀ v, B v = some res → W p l e R s m args below meth c H locs cells slots Q (F0 m (pc + 1) ls (.int v :: rest))) : W p l e R s m args below meth c H locs cells slots Q (F0 m pc ls (.long y :: .long x :: rest)) := W.lcmp cx.1 cx.2.1 d (k _ hF)
theorem r_lret (cx : CX Y Γ ad A own cc nL p s m args c) (hP : PS Y Γ ad A s σ H locs) (hr : meth.sig.returnType = some .long) (hlocks : meth.locks = false) {v r : Int64} {σ1 : Sig} (d : decode cc pc = .ok (.lreturn, 1)) (hF : some (v, σ) = some (r, σ1)) : W p l e R s m args below meth c H locs cells slots (MQ below (va_Ql (fun r' (_ : Unit) => r' = r) (fun _ t => PX Y Γ ad σ1 t.heap) A) args s cells slots A) (F0 m pc ls [.long v]) := by
  cases hF
  exact W.lret (v := v) cx.1 cx.2.1 hr (fun t ht hW => ⟨⟨v, (), rfl, rfl, by show PX Y Γ ad σ t.heap; rw [ht]; exact hP.1⟩, hP.2.F ht⟩) hP.2.2.2 d hlocks
end FR9
theorem isb_isBlocked {p1 r : Int32} {σ σ1 : Sig} (h : f11_isBlocked p1 σ = some (0, r, σ1)) : r = r &&& 1 := by
  rw [f11_isBlocked] at h
  obtain ⟨v, σ', -, h⟩ := bnx_nt h
  obtain ⟨-, h⟩ := ald_some h
  obtain ⟨hz, h⟩ := gz_some h
  cases h
  exact hz
theorem isb_isReturned {p1 r : Int32} {σ σ1 : Sig} (h : f11_isReturned p1 σ = some (0, r, σ1)) : r = r &&& 1 := by
  rw [f11_isReturned] at h
  obtain ⟨v, σ', -, h⟩ := bnx_nt h
  obtain ⟨-, h⟩ := ald_some h
  obtain ⟨hz, h⟩ := gz_some h
  cases h
  exact hz
theorem isb_isInSeason {p1 r : Int32} {σ σ1 : Sig} (h : f11_isInSeason p1 σ = some (0, r, σ1)) : r = r &&& 1 := by
  rw [f11_isInSeason] at h
  obtain ⟨v, σ', -, h⟩ := bnx_nt h
  obtain ⟨w, -, h⟩ := bnd_some h
  obtain ⟨w, -, h⟩ := bnd_some h
  obtain ⟨hz, h⟩ := gz_some h
  cases h
  exact hz
