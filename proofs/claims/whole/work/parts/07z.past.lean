/-! the reference's rows of the past: an array of rows, whose references are kept as numbers of cells -/
def va_AOA (ty : FieldType) (U : State) : Prop := (Cond.arrayOver (.array ty)).before #[] U = true
theorem va_AOA.use {ty : FieldType} {A : Array Value} {U : State} (h : va_AOA ty U) : (Cond.arrayOver (.array ty)).before A U = true := h
def isWb (c : Nat) : Bool := decide (c < 15) && decide (c ≠ 0) && decide (c ≠ 2) && decide (c ≠ 5) && decide (c ≠ 6)
theorem isWb_of {c : Nat} (h : isWb c = true) : isW c := by
  unfold isWb at h
  simp only [Bool.and_eq_true, decide_eq_true_eq] at h
  exact ⟨h.1.1.1.1, h.1.1.1.2, h.1.1.2, h.1.2, h.2⟩
theorem isWb_to {c : Nat} (h : isW c) : isWb c = true := by
  unfold isWb
  simp only [Bool.and_eq_true, decide_eq_true_eq]
  exact ⟨⟨⟨⟨h.1, h.2.1⟩, h.2.2.1⟩, h.2.2.2.1⟩, h.2.2.2.2⟩
def alw {β : Type} (σ : Sig) (i : Int32) (f : Nat → Option β) : Option β := alr 8 i (fun k => if isWb (σ 0 2 k).toNatClampNeg = true then f (σ 0 2 k).toNatClampNeg else none)
def asw {β : Type} (σ : Sig) (i : Int32) (c : Nat) (f : Sig → Option β) : Option β := alr 8 i (fun k => f (up σ 0 2 k (Int32.ofNat c)))
theorem ofNat_clamp {c : Nat} (h : c < 15) : (Int32.ofNat c).toNatClampNeg = c := by
  have : ∀ c : Fin 15, (Int32.ofNat c.1).toNatClampNeg = c.1 := by decide +kernel
  exact this ⟨c, h⟩
section FRP
variable {p : Program} {l : Launch} {e : Env} {R : Room} {s : State} {m : MethodId} {args : Array Value} {below : List Frame} {meth : Method} {c : Code} {H : Heap} {locs : List Loc} {cells slots : Nat} {Q : State → Prop}
variable {cc : ByteArray} {pc nL : Nat} {ls : Array Slot} {rest st : List Value} {Γ : Wc} {ad : Nat → Nat → Nat} {A : Nat → Prop} {σ σ' : Sig} {own : String} {ρ : Type} {res : ρ}
theorem r_alw (cx : CX SM Γ ad A own cc nL p s m args c) (hP : PS SM Γ ad A s σ H locs) {i : Int32} (d : decode cc pc = .ok (.aaload, 1)) {B : Nat → Option ρ} (hF : alw σ i B = some res)
    (kk : ∀ j, isW j → B j = some res → W p l e R s m args below meth c H locs cells slots Q (F0 m (pc + 1) ls (.ref (ad 0 j) :: rest))) : W p l e R s m args below meth c H locs cells slots Q (F0 m pc ls (.int i :: .ref (ad 0 2) :: rest)) := by
  refine r_aald cx hP (g := 0) (k0 := 2) (n := 8) (t := 4) (f := fun i => some (ad 0 (σ 0 2 i).toNatClampNeg)) (dMr (by decide)) rfl rfl rfl d hF (fun j hj _ hB => ?_)
  have hB : (if isWb (σ 0 2 j).toNatClampNeg = true then B (σ 0 2 j).toNatClampNeg else none) = some res := hB
  by_cases hw : isWb (σ 0 2 j).toNatClampNeg = true
  · rw [if_pos hw] at hB
    exact kk _ (isWb_of hw) hB
  · rw [if_neg hw] at hB
    cases hB
theorem r_asw (cx : CX SM Γ ad A own cc nL p s m args c) (hP : PS SM Γ ad A s σ H locs) {i : Int32} {c0 : Nat} (hc : isW c0) (d : decode cc pc = .ok (.aastore, 1)) {B : Sig → Option ρ} (hF : asw σ i c0 B = some res)
    (kk : ∀ (σ1 : Sig) (H1 : Heap) (locs1 : List Loc), PS SM Γ ad A s σ1 H1 locs1 → B σ1 = some res → W p l e R s m args below meth c H1 locs1 cells slots Q (F0 m (pc + 1) ls rest)) : W p l e R s m args below meth c H locs cells slots Q (F0 m pc ls (.ref (ad 0 c0) :: .int i :: .ref (ad 0 2) :: rest)) := by
  obtain ⟨hin, hB⟩ := alr_some hF
  have hlt : i.toNatClampNeg < 8 := Nat.not_le.mp fun q => hin (Or.inr q)
  have h0 : ¬ i < 0 := fun q => hin (Or.inl q)
  have hd2 : SM.2 0 2 := dMr (by decide)
  have ha : va_at Γ.1 vwCl (ad 0 2, .inl (Γ.2.1 4, 8, .inr (.inr (.inr (.inr (fun i => some (ad 0 (σ 0 2 i).toNatClampNeg))))))) H := hP.1 0 2 hd2
  have hv : va_at Γ.1 vwCl (ad 0 c0, .inl (Γ.2.1 0, 536, .inl (σ 0 c0))) H := by
    have h := hP.1 0 c0 (isW_d hc)
    rw [isW_E hc] at h
    exact h
  obtain ⟨k4, f2, f3⟩ := cx.hV.2.2.2
  have e0 : s.vm.findClass ("[" ++ (FieldType.int).toString) = some (Γ.2.1 0) := (cx.hK.2 0 _ rfl).2
  obtain ⟨k0, hk0, -⟩ := Vm.findClass_spec e0
  refine W.aast cx.1 cx.2.1 ha (fun q h => by cases h) (fun h => by cases h) f2 f3 rfl hk0 ⟨h0, by show _ < (arrV _ _ _).slots.size; rw [arrV_size]; exact hlt⟩ hv (fun q h => by cases h) hk0 (va_asg _ _) rfl rfl d fun H1 e z oq => ?_
  refine kk _ H1 _ ⟨?_, hP.2.put z oq (cx.hA.2 0 2 hd2)⟩ hB
  rw [up_ur]
  refine hP.1.put cx.hA hd2 ?_ oq
  show H1[ad 0 2]? = some (vp_cell (Γ.2.1 4) (8, .inr (.inr (.inr (.inr (fun j => some (ad 0 (upd (σ 0 2) i.toNatClampNeg (Int32.ofNat c0) j).toNatClampNeg)))))))
  rw [e]
  show some (Cell.setSlot (vp_cell _ _) _ _) = _
  rw [vp_cell_q, vp_cell_q, arrV_store]
  congr 2
  funext q
  by_cases hq : q = i.toNatClampNeg
  · subst hq
    simp [updV, upd, va_rf, ofNat_clamp hc.1]
  · simp [updV, upd, hq]
end FRP
/-! doubles and floats: a quotient that is no number has no row -/
def ddv {β : Type} (x y : UInt64) (f : UInt64 → Option β) : Option β := if FP.ddiv x y &&& 0x7fffffffffffffff ≤ 0x7ff0000000000000 then f (FP.ddiv x y) else none
def fdv {β : Type} (x y : UInt32) (f : UInt32 → Option β) : Option β := if FP.fdiv x y &&& 0x7fffffff ≤ 0x7f800000 then f (FP.fdiv x y) else none
theorem ddv_some {β : Type} {x y : UInt64} {f : UInt64 → Option β} {r : β} (h : ddv x y f = some r) : vf_n64 (FP.ddiv x y) ∧ f (FP.ddiv x y) = some r := by
  unfold ddv at h
  split at h
  · rename_i hn; exact ⟨hn, h⟩
  · cases h
theorem fdv_some {β : Type} {x y : UInt32} {f : UInt32 → Option β} {r : β} (h : fdv x y f = some r) : vf_n32 (FP.fdiv x y) ∧ f (FP.fdiv x y) = some r := by
  unfold fdv at h
  split at h
  · rename_i hn; exact ⟨hn, h⟩
  · cases h
theorem prD {α : Type} {v r : α} {σ : Sig} (h : some v = some r) : some (v, σ) = some (r, σ) := by cases h; rfl
def MD (l : Launch) (Y : Sys) (Γ : Wc) (ad : Nat → Nat → Nat) (A : Nat → Prop) (y : MethodName) (cc : ByteArray) (nL : Nat) (fr lo : Nat) (av : List Value) (σ : Sig) (r : UInt64) (σ' : Sig) : Prop :=
  Met l y (Wsd y cc nL (some .double)) { frames := fr, cells := 0, slots := 0, locals := lo } (va_Pc av (Pre Y Γ ad A σ)) (va_Qd (fun r' (_ : Unit) => r' = r) (fun _ t => PX Y Γ ad σ' t.heap) A) 0 0 A
def MF (l : Launch) (Y : Sys) (Γ : Wc) (ad : Nat → Nat → Nat) (A : Nat → Prop) (y : MethodName) (cc : ByteArray) (nL : Nat) (fr lo : Nat) (av : List Value) (σ : Sig) (r : UInt32) (σ' : Sig) : Prop :=
  Met l y (Wsd y cc nL (some .float)) { frames := fr, cells := 0, slots := 0, locals := lo } (va_Pc av (Pre Y Γ ad A σ)) (va_Qf (fun r' (_ : Unit) => r' = r) (fun _ t => PX Y Γ ad σ' t.heap) A) 0 0 A
abbrev QD (Y : Sys) (Γ : Wc) (ad : Nat → Nat → Nat) (A : Nat → Prop) (below : List Frame) (args : Array Value) (s : State) (r : UInt64) (σ' : Sig) : State → Prop := MQ below (va_Qd (fun r' (_ : Unit) => r' = r) (fun _ t => PX Y Γ ad σ' t.heap) A) args s 0 0 A
abbrev QF (Y : Sys) (Γ : Wc) (ad : Nat → Nat → Nat) (A : Nat → Prop) (below : List Frame) (args : Array Value) (s : State) (r : UInt32) (σ' : Sig) : State → Prop := MQ below (va_Qf (fun r' (_ : Unit) => r' = r) (fun _ t => PX Y Γ ad σ' t.heap) A) args s 0 0 A
theorem MD.of {l : Launch} {Y : Sys} {Γ : Wc} {ad : Nat → Nat → Nat} {A : Nat → Prop} {y : MethodName} {cc : ByteArray} {nL : Nat} {fr lo : Nat} {av : List Value} {σ σ' : Sig} {r : UInt64} (hy : plainName y.cls = true) (hn : (lg_sl av).length ≤ nL)
    (body : ∀ (p : Program) (e : Env) (s : State) (m : MethodId) (args : Array Value) (below : List Frame) (meth : Method) (c : Code) (ls : Array Slot), CX Y Γ ad A y.cls cc nL p s m args c → meth.sig.returnType = some .double → meth.locks = false → PS Y Γ ad A s σ s.heap [] → lv_has ls nL (lv_args 0 av) → W p l e { frames := fr, cells := 0, slots := 0, locals := lo } s m args below meth c s.heap [] 0 0 (QD Y Γ ad A below args s r σ') (F0 m 0 ls [])) : MD l Y Γ ad A y cc nL fr lo av σ r σ' := by
  refine Met.ofW (cc := cc) (maxL := nL) (ret := some .double) hy rfl ?_
  intro p e s m args below meth c s₁ B hml hv
  obtain ⟨rfl, hX, hK, hA, hZ, hV⟩ := hv
  rw [lg_entry_eq]
  exact body p e s m _ below meth c _ ⟨B.exec, B.bytes, hml, findClass_of_methodNamed B.named, fun w hw => atoms_spec (ws := Wsd y cc nL (some .double)) B.pre w (List.mem_cons_of_mem _ hw), hK, hA, hZ, hV⟩ B.returns B.notSynchronized ⟨hX, va_S.rf⟩ (lv_entry av hn)
theorem MF.of {l : Launch} {Y : Sys} {Γ : Wc} {ad : Nat → Nat → Nat} {A : Nat → Prop} {y : MethodName} {cc : ByteArray} {nL : Nat} {fr lo : Nat} {av : List Value} {σ σ' : Sig} {r : UInt32} (hy : plainName y.cls = true) (hn : (lg_sl av).length ≤ nL)
    (body : ∀ (p : Program) (e : Env) (s : State) (m : MethodId) (args : Array Value) (below : List Frame) (meth : Method) (c : Code) (ls : Array Slot), CX Y Γ ad A y.cls cc nL p s m args c → meth.sig.returnType = some .float → meth.locks = false → PS Y Γ ad A s σ s.heap [] → lv_has ls nL (lv_args 0 av) → W p l e { frames := fr, cells := 0, slots := 0, locals := lo } s m args below meth c s.heap [] 0 0 (QF Y Γ ad A below args s r σ') (F0 m 0 ls [])) : MF l Y Γ ad A y cc nL fr lo av σ r σ' := by
  refine Met.ofW (cc := cc) (maxL := nL) (ret := some .float) hy rfl ?_
  intro p e s m args below meth c s₁ B hml hv
  obtain ⟨rfl, hX, hK, hA, hZ, hV⟩ := hv
  rw [lg_entry_eq]
  exact body p e s m _ below meth c _ ⟨B.exec, B.bytes, hml, findClass_of_methodNamed B.named, fun w hw => atoms_spec (ws := Wsd y cc nL (some .float)) B.pre w (List.mem_cons_of_mem _ hw), hK, hA, hZ, hV⟩ B.returns B.notSynchronized ⟨hX, va_S.rf⟩ (lv_entry av hn)
section FRQ
variable {p : Program} {l : Launch} {e : Env} {R : Room} {s : State} {m : MethodId} {args : Array Value} {below : List Frame} {meth : Method} {c : Code} {H : Heap} {locs : List Loc} {cells slots : Nat} {Q : State → Prop}
variable {cc : ByteArray} {pc nL : Nat} {ls : Array Slot} {rest st : List Value} {Y : Sys} {Γ : Wc} {ad : Nat → Nat → Nat} {A : Nat → Prop} {σ σ' : Sig} {own : String} {ρ : Type} {res : ρ}
theorem r_i2d (cx : CX Y Γ ad A own cc nL p s m args c) {x : Int32} (d : decode cc pc = .ok (.i2d, 1)) {B : UInt64 → Option ρ} (hF : nm (FP.i2d x) B = some res) (k : ∀ v, B v = some res → W p l e R s m args below meth c H locs cells slots Q (F0 m (pc + 1) ls (.double v :: rest))) : W p l e R s m args below meth c H locs cells slots Q (F0 m pc ls (.int x :: rest)) := lv_i2d cx.1 cx.2.1 d (k _ hF)
theorem r_i2f (cx : CX Y Γ ad A own cc nL p s m args c) {x : Int32} (d : decode cc pc = .ok (.i2f, 1)) {B : UInt32 → Option ρ} (hF : nm (FP.i2f x) B = some res) (k : ∀ v, B v = some res → W p l e R s m args below meth c H locs cells slots Q (F0 m (pc + 1) ls (.float v :: rest))) : W p l e R s m args below meth c H locs cells slots Q (F0 m pc ls (.int x :: rest)) := lv_i2f cx.1 cx.2.1 d (k _ hF)
theorem r_dconst0 (cx : CX Y Γ ad A own cc nL p s m args c) (d : decode cc pc = .ok (.dconst 0, 1)) (k : W p l e R s m args below meth c H locs cells slots Q (F0 m (pc + 1) ls (.double FP.dconst0 :: rest))) : W p l e R s m args below meth c H locs cells slots Q (F0 m pc ls rest) := lv_dconst0 cx.1 cx.2.1 d k
theorem r_fconst0 (cx : CX Y Γ ad A own cc nL p s m args c) (d : decode cc pc = .ok (.fconst 0, 1)) (k : W p l e R s m args below meth c H locs cells slots Q (F0 m (pc + 1) ls (.float FP.fconst0 :: rest))) : W p l e R s m args below meth c H locs cells slots Q (F0 m pc ls rest) := lv_fconst0 cx.1 cx.2.1 d k
theorem r_ddiv (cx : CX Y Γ ad A own cc nL p s m args c) {x y : UInt64} (d : decode cc pc = .ok (.ddiv, 1)) {B : UInt64 → Option ρ} (hF : ddv x y B = some res) (k : ∀ v, B v = some res → W p l e R s m args below meth c H locs cells slots Q (F0 m (pc + 1) ls (.double v :: rest))) : W p l e R s m args below meth c H locs cells slots Q (F0 m pc ls (.double y :: .double x :: rest)) := lv_ddiv cx.1 cx.2.1 d (ddv_some hF).1 (k _ (ddv_some hF).2)
theorem r_fdiv (cx : CX Y Γ ad A own cc nL p s m args c) {x y : UInt32} (d : decode cc pc = .ok (.fdiv, 1)) {B : UInt32 → Option ρ} (hF : fdv x y B = some res) (k : ∀ v, B v = some res → W p l e R s m args below meth c H locs cells slots Q (F0 m (pc + 1) ls (.float v :: rest))) : W p l e R s m args below meth c H locs cells slots Q (F0 m pc ls (.float y :: .float x :: rest)) := lv_fdiv cx.1 cx.2.1 d (fdv_some hF).1 (k _ (fdv_some hF).2)
theorem r_dret (cx : CX Y Γ ad A own cc nL p s m args c) (hP : PS Y Γ ad A s σ H locs) (hr : meth.sig.returnType = some .double) (hlocks : meth.locks = false) {v r : UInt64} {σ1 : Sig} (d : decode cc pc = .ok (.dreturn, 1)) (hF : some (v, σ) = some (r, σ1)) : W p l e R s m args below meth c H locs cells slots (MQ below (va_Qd (fun r' (_ : Unit) => r' = r) (fun _ t => PX Y Γ ad σ1 t.heap) A) args s cells slots A) (F0 m pc ls [.double v]) := by
  cases hF
  exact W.dret (v := v) cx.1 cx.2.1 hr (fun t ht hW => ⟨⟨v, (), rfl, rfl, by show PX Y Γ ad σ t.heap; rw [ht]; exact hP.1⟩, hP.2.F ht⟩) hP.2.2.2 d hlocks
theorem r_fret (cx : CX Y Γ ad A own cc nL p s m args c) (hP : PS Y Γ ad A s σ H locs) (hr : meth.sig.returnType = some .float) (hlocks : meth.locks = false) {v r : UInt32} {σ1 : Sig} (d : decode cc pc = .ok (.freturn, 1)) (hF : some (v, σ) = some (r, σ1)) : W p l e R s m args below meth c H locs cells slots (MQ below (va_Qf (fun r' (_ : Unit) => r' = r) (fun _ t => PX Y Γ ad σ1 t.heap) A) args s cells slots A) (F0 m pc ls [.float v]) := by
  cases hF
  exact W.fret (v := v) cx.1 cx.2.1 hr (fun t ht hW => ⟨⟨v, (), rfl, rfl, by show PX Y Γ ad σ t.heap; rw [ht]; exact hP.1⟩, hP.2.F ht⟩) hP.2.2.2 d hlocks
end FRQ
