/-! THE FRAME: states as functions (block, cell, slot ↦ int), pictures of them in the heap, rows that thread a partial function's value ('hF : F = some res') -/
/-- the tables' words that stay -/
def gw : List Cond := lw_tbl.filter goodWord
theorem gw_of {w : Cond} (h : w ∈ lw_tbl) (hg : goodWord w = true) : w ∈ gw := List.mem_filter.mpr ⟨h, hg⟩
theorem gw_t {w : Cond} (h : w ∈ tables_1) (hg : goodWord w = true) : w ∈ gw := gw_of (List.mem_append_right _ h) hg
theorem gw_s {w : Cond} (h : w ∈ k2_sels lw_privs) (hg : goodWord w = true) : w ∈ gw := gw_of (List.mem_append_left _ h) hg
theorem gw_in : GoodIn gw gw := fun w h => ⟨h, good_of_word (List.mem_filter.mp h).2⟩
theorem gw_cons {w : Cond} (h : w ∈ gw) : GoodIn gw (w :: gw) := fun z hz => (List.mem_cons.mp hz).elim (fun e => by rw [e]; exact gw_in w h) (gw_in z)
theorem gw_app {a b : List Cond} (ha : ∀ w ∈ a, w ∈ gw) (hb : GoodIn gw b) : GoodIn gw (a ++ b) := fun z hz => (List.mem_append.mp hz).elim (fun h => gw_in z (ha z h)) (hb z)
/-- words that the tables alone decide and that stay, too -/
def nb : List Cond := tables_1.filter (fun w => w.onTables && w.keepsFace)
abbrev Sig : Type := Nat → Nat → Nat → Int32
def up (σ : Sig) (g c j : Nat) (v : Int32) : Sig := fun g' c' => if g' = g ∧ c' = c then upd (σ g c) j v else σ g' c'
/-- a whole row -/
def ur (σ : Sig) (g c : Nat) (f : Nat → Int32) : Sig := fun g' c' => if g' = g ∧ c' = c then f else σ g' c'
theorem up_self (σ : Sig) (g c j : Nat) (v : Int32) : up σ g c j v g c = upd (σ g c) j v := if_pos ⟨rfl, rfl⟩
theorem up_ne (σ : Sig) {g c g' c' : Nat} (j : Nat) (v : Int32) (h : ¬ (g' = g ∧ c' = c)) : up σ g c j v g' c' = σ g' c' := if_neg h
theorem ur_self (σ : Sig) (g c : Nat) (f : Nat → Int32) : ur σ g c f g c = f := if_pos ⟨rfl, rfl⟩
theorem ur_ne (σ : Sig) {g c g' c' : Nat} (f : Nat → Int32) (h : ¬ (g' = g ∧ c' = c)) : ur σ g c f g' c' = σ g' c' := if_neg h
/-- a name for a value -/
def nm {α β : Type} (a : α) (f : α → β) : β := f a
def ald {β : Type} (s : Nat → Int32) (n : Nat) (i : Int32) (f : Int32 → Option β) : Option β := if i < 0 ∨ n ≤ i.toNatClampNeg then none else f (s i.toNatClampNeg)
def alr {β : Type} (n : Nat) (i : Int32) (f : Nat → Option β) : Option β := if i < 0 ∨ n ≤ i.toNatClampNeg then none else f i.toNatClampNeg
def ast {β : Type} (σ : Sig) (g c n : Nat) (i v : Int32) (f : Sig → Option β) : Option β := if i < 0 ∨ n ≤ i.toNatClampNeg then none else f (up σ g c i.toNatClampNeg v)
def acp {β : Type} (σ : Sig) (g c n g' c' n' : Nat) (sp dp k : Int32) (f : Sig → Option β) : Option β :=
  if sp < 0 ∨ dp < 0 ∨ k < 0 ∨ n < sp.toNatClampNeg + k.toNatClampNeg ∨ n' < dp.toNatClampNeg + k.toNatClampNeg then none else f (ur σ g' c' (va_cpy (σ g c) (σ g' c') sp.toNatClampNeg dp.toNatClampNeg k.toNatClampNeg))
def dvd {β : Type} (x y : Int32) (f : Int32 → Option β) : Option β := if y = 0 then none else f (x / y)
def rmd {β : Type} (x y : Int32) (f : Int32 → Option β) : Option β := if y = 0 then none else f (x - x / y * y)
def bnd {α β : Type} (x : Option α) (f : α → Option β) : Option β := match x with
  | some a => f a
  | none => none
def bns {β : Type} (x : Option (Int32 × Sig)) (f : Int32 → Sig → Option β) : Option β := match x with
  | some (a, b) => f a b
  | none => none
/-- a boolean's value -/
def isb (v : Int32) : Bool := decide (v = v &&& 1)
def gz {β : Type} (v : Int32) (x : Option β) : Option β := if v = v &&& 1 then x else none
theorem bnd_some {α β : Type} {x : Option α} {f : α → Option β} {r : β} (h : bnd x f = some r) : ∃ a, x = some a ∧ f a = some r := by
  cases x with
  | none => cases h
  | some a => exact ⟨a, rfl, h⟩
theorem bns_some {β : Type} {x : Option (Int32 × Sig)} {f : Int32 → Sig → Option β} {r : β} (h : bns x f = some r) : ∃ a b, x = some (a, b) ∧ f a b = some r := by
  cases x with
  | none => cases h
  | some q => exact ⟨q.1, q.2, rfl, h⟩
theorem ald_some {β : Type} {s : Nat → Int32} {n : Nat} {i : Int32} {f : Int32 → Option β} {r : β} (h : ald s n i f = some r) : vp_in i n ∧ f (s i.toNatClampNeg) = some r := by
  unfold ald at h
  split at h
  · cases h
  · rename_i hn; exact ⟨hn, h⟩
theorem alr_some {β : Type} {n : Nat} {i : Int32} {f : Nat → Option β} {r : β} (h : alr n i f = some r) : vp_in i n ∧ f i.toNatClampNeg = some r := by
  unfold alr at h
  split at h
  · cases h
  · rename_i hn; exact ⟨hn, h⟩
theorem ast_some {β : Type} {σ : Sig} {g c n : Nat} {i v : Int32} {f : Sig → Option β} {r : β} (h : ast σ g c n i v f = some r) : vp_in i n ∧ f (up σ g c i.toNatClampNeg v) = some r := by
  unfold ast at h
  split at h
  · cases h
  · rename_i hn; exact ⟨hn, h⟩
theorem dvd_some {β : Type} {x y : Int32} {f : Int32 → Option β} {r : β} (h : dvd x y f = some r) : ¬ y = 0 ∧ f (x / y) = some r := by
  unfold dvd at h
  split at h
  · cases h
  · rename_i hn; exact ⟨hn, h⟩
theorem rmd_some {β : Type} {x y : Int32} {f : Int32 → Option β} {r : β} (h : rmd x y f = some r) : ¬ y = 0 ∧ f (x - x / y * y) = some r := by
  unfold rmd at h
  split at h
  · cases h
  · rename_i hn; exact ⟨hn, h⟩
theorem gz_some {β : Type} {v : Int32} {x : Option β} {r : β} (h : gz v x = some r) : v = v &&& 1 ∧ x = some r := by
  unfold gz at h
  split at h
  · rename_i hn; exact ⟨hn, h⟩
  · cases h
/-- a world's constants: the classes' numbers and slots; the array classes; the String constants' cells and their byte arrays -/
abbrev Wc : Type := va_G × (Nat → ClassId) × (Nat → Nat) × (Nat → Nat)
/-- a system of cells: what lies at (block, cell), of its slots' values; which (block, cell) there are -/
abbrev Sys : Type := ((Nat → ClassId) → (Nat → Nat → Nat) → Nat → Nat → (Nat → Int32) → va_E) × (Nat → Nat → Prop)
abbrev tyK (K : Nat → ClassId) : List (ClassId × FieldType) := [(K 0, .int), (K 1, .boolean), (K 2, .byte), (K 3, .object RX4)]
def PX (Y : Sys) (Γ : Wc) (ad : Nat → Nat → Nat) (σ : Sig) (H : Heap) : Prop := ∀ g c, Y.2 g c → va_at Γ.1 vwCl (ad g c, Y.1 Γ.2.1 ad g c (σ g c)) H
def AX (Y : Sys) (ad : Nat → Nat → Nat) (A : Nat → Prop) : Prop := (∀ g c g' c', Y.2 g c → Y.2 g' c' → ad g c = ad g' c' → g = g' ∧ c = c') ∧ ∀ g c, Y.2 g c → A (ad g c)
def PS (Y : Sys) (Γ : Wc) (ad : Nat → Nat → Nat) (A : Nat → Prop) (s : State) (σ : Sig) (H : Heap) (locs : List Loc) : Prop := PX Y Γ ad σ H ∧ va_S A s.heap H locs
/-- String constants with contents: (own, place), the bytes -/
def strT : List (String × Nat × List Int32) := [(RX11, 45, [103, 97, 114, 100, 101, 110, 32, 51, 48, 32, 50, 48, 32, 49, 53, 59, 32, 98, 101, 100, 32, 48, 32, 50, 32, 48, 32, 57, 59, 32, 98, 101, 100, 32, 49, 32, 49, 32, 53, 32, 57, 59, 32, 98, 101, 100, 32, 50, 32, 51, 32, 48, 32, 48, 59, 32, 115, 101, 108, 108, 32, 49, 32, 48, 32, 49, 32, 97, 100, 117, 108, 116, 59, 32, 115, 101, 108, 108, 32, 51, 32, 48, 32, 54, 32, 97, 100, 117, 108, 116, 59, 32, 115, 101, 108, 108, 32, 55, 32, 49, 32, 51, 32, 99, 104, 105, 108, 100, 59, 32, 112, 97, 115, 115, 32, 52, 48, 59, 32, 118, 105, 115, 105, 116, 32, 48, 32, 48, 59, 32, 118, 105, 115, 105, 116, 32, 49, 32, 49, 59, 32, 112, 108, 117, 99, 107, 32, 48, 32, 50, 59, 32, 112, 97, 115, 115, 32, 50, 59, 32, 118, 105, 115, 105, 116, 32, 49, 32, 48, 59, 32, 112, 108, 117, 99, 107, 32, 49, 32, 51, 59, 32, 108, 111, 115, 116, 32, 48, 59]), (RX9, 54, [103, 97, 114, 100, 101, 110]), (RX9, 88, [98, 101, 100]), (RX9, 93, [115, 101, 108, 108]), (RX9, 248, [97, 100, 117, 108, 116]), (RX9, 250, [99, 104, 105, 108, 100]), (RX9, 98, [118, 105, 115, 105, 116]), (RX9, 103, [112, 108, 117, 99, 107]), (RX9, 108, [112, 97, 121]), (RX9, 113, [108, 111, 115, 116]), (RX9, 118, [114, 101, 112, 108, 97, 99, 101]), (RX9, 123, [112, 101, 97, 99, 111, 99, 107, 115]), (RX9, 128, [112, 97, 115, 115]), (RX9, 133, [114, 101, 102, 117, 110, 100]), (RL, 154, [103, 97, 114, 100, 101, 110]), (RL, 167, [98, 101, 100, 32]), (RL, 172, [112, 97, 115, 115, 32])]
def strOwn (i : Nat) : String := (strT.getD i ("", 0, [])).1
def strIdx (i : Nat) : Nat := (strT.getD i ("", 0, [])).2.1
def strB (i : Nat) : List Int32 := (strT.getD i ("", 0, [])).2.2
def strA (i : Nat) : Nat → Int32 := fun j => (strB i).getD j 0
def strN : Nat := 17
def ZStr (Γ : Wc) (A : Nat → Prop) (U : State) (H : Heap) (i : Nat) : Prop := va_O "java/lang/String" (Γ.2.2.1 i) A U H ∧ va_OF "java/lang/String" "coder" "B" (.int 0) (Γ.2.2.1 i) A U H ∧ va_OF "java/lang/String" "value" "[B" (.ref (Γ.2.2.2 i)) (Γ.2.2.1 i) A U H ∧ va_T .byte (Γ.2.2.2 i) (strB i).length (fun j => .int (strA i j)) A U H
/-- what lies outside the systems and stays: Throwable's two statics, String's, the constants; words of the tables that aren't good; the constants' places, the messages' -/
def msgT : List (String × Nat × String) := [(RX11, 383, "out of range"), (RX11, 366, "no such scent"), (RX11, 388, "not possible now"), (RX11, 373, "no such pass"), (RX11, 376, "no such card"), (RX11, 370, "no such bed")]
def ZH (Γ : Wc) (A : Nat → Prop) (U : State) (H : Heap) : Prop := vx_Zq Bundle.tN "UNASSIGNED_STACK" Bundle.steD A U H ∧ vx_Zq Bundle.tN "SUPPRESSED_SENTINEL" Bundle.listD A U H ∧ va_Z "java/lang/String" "COMPACT_STRINGS" "Z" (.int 1) A U H ∧ va_Zq "jdk/internal/util/Preconditions" "SIOOBE_FORMATTER" "Ljava/util/function/BiFunction;" A U H ∧ ∀ i, i < strN → ZStr Γ A U H i
def ZK (_ : Wc) (_ : State) : Prop := True
theorem ZK.moved {Γ : Wc} {u U : State} (_ : u.vm.Alike U.vm) (_ : ZK Γ u) : ZK Γ U := trivial
def ZV (Γ : Wc) (U : State) : Prop := (∀ w ∈ nb, w.before #[] U = true) ∧ (∀ i, i < strN → ∃ tx, vk_R (strOwn i) (strIdx i) tx (Γ.2.2.1 i) U) ∧ (∀ q ∈ msgT, ∃ a, vk_R q.1 q.2.1 q.2.2 a U) ∧ ZK Γ U
theorem ZStr.moved {Γ : Wc} {A : Nat → Prop} {u U : State} {H : Heap} {i : Nat} (hvm : u.vm.Alike U.vm) (h : ZStr Γ A u H i) : ZStr Γ A U H i := ⟨va_O.moved hvm h.1, va_OF.moved hvm h.2.1, va_OF.moved hvm h.2.2.1, va_T.moved hvm h.2.2.2⟩
theorem ZStr.kept {Γ : Wc} {A : Nat → Prop} {U : State} {H H1 : Heap} {i : Nat} (h : ZStr Γ A U H i) (hq : ∀ a : Nat, a < H.size → ¬ A a → H1[a]? = H[a]?) : ZStr Γ A U H1 i := ⟨h.1.kept hq, h.2.1.kept hq, h.2.2.1.kept hq, h.2.2.2.kept hq⟩
theorem ZH.moved {Γ : Wc} {A : Nat → Prop} {u U : State} {H : Heap} (hvm : u.vm.Alike U.vm) (h : ZH Γ A u H) : ZH Γ A U H := ⟨h.1.moved hvm, h.2.1.moved hvm, va_Z.moved hvm h.2.2.1, va_Zq.moved hvm h.2.2.2.1, fun i hi => (h.2.2.2.2 i hi).moved hvm⟩
theorem ZH.kept {Γ : Wc} {A : Nat → Prop} {U : State} {H H1 : Heap} (h : ZH Γ A U H) (hq : ∀ a : Nat, a < H.size → ¬ A a → H1[a]? = H[a]?) : ZH Γ A U H1 := ⟨h.1.kept hq, h.2.1.kept hq, h.2.2.1.kept hq, h.2.2.2.1.kept hq, fun i hi => (h.2.2.2.2 i hi).kept hq⟩
theorem ZV.warm {Γ : Wc} {s U : State} (hW : s.WarmedH U.vm) (h : ZV Γ s) : ZV Γ U := by
  refine ⟨fun w hw => ?_, fun i hi => ?_, fun q hq => ?_, h.2.2.2.moved hW.alike⟩
  · have h2 := (List.mem_filter.mp hw).2
    simp only [Bool.and_eq_true] at h2
    exact va_tabs h2.1 (rfl : (s.setVm U.vm).vm = U.vm) (Cond.before_shiftedFace (State.Shifted.of_warmed hW) w h2.2 (h.1 w hw))
  · obtain ⟨tx, h2⟩ := h.2.1 i hi
    exact ⟨tx, h2.warm hW⟩
  · obtain ⟨a, h2⟩ := h.2.2.1 q hq
    exact ⟨a, h2.warm hW⟩
theorem ZV.same {Γ : Wc} {u U : State} (hv : U.vm = u.vm) (h : ZV Γ u) : ZV Γ U := by
  refine ⟨fun w hw => ?_, fun i hi => ?_, fun q hq => ?_, h.2.2.2.moved (hv ▸ Vm.Alike.refl _)⟩
  · have h2 := (List.mem_filter.mp hw).2
    simp only [Bool.and_eq_true] at h2
    exact va_tabs h2.1 hv.symm (h.1 w hw)
  · obtain ⟨tx, h2⟩ := h.2.1 i hi
    exact ⟨tx, h2.same hv⟩
  · obtain ⟨a, h2⟩ := h.2.2.1 q hq
    exact ⟨a, h2.same hv⟩
/-- what a method's walk has at hand throughout -/
def CX (Y : Sys) (Γ : Wc) (ad : Nat → Nat → Nat) (A : Nat → Prop) (own : String) (cc : ByteArray) (nL : Nat) (p : Program) (s : State) (m : MethodId) (args : Array Value) (c : Code) : Prop :=
  p.tables.exec = Jvm.exec ∧ c.code = cc ∧ c.maxLocals = nL ∧ s.vm.findClass own = some m.cls ∧ (∀ w ∈ gw, w.before args s = true) ∧ va_K Γ.1 vwCl (tyK Γ.2.1) s ∧ AX Y ad A ∧ ZH Γ A s s.heap ∧ ZV Γ s
theorem PX.put {Y : Sys} {Γ : Wc} {ad : Nat → Nat → Nat} {A : Nat → Prop} {σ : Sig} {H H1 : Heap} {g c : Nat} {f : Nat → Int32} (h : PX Y Γ ad σ H) (hA : AX Y ad A) (hd : Y.2 g c) (he : va_at Γ.1 vwCl (ad g c, Y.1 Γ.2.1 ad g c f) H1) (oq : ∀ q, q ≠ ad g c → H1[q]? = H[q]?) : PX Y Γ ad (ur σ g c f) H1 := by
  intro g' c' hd'
  by_cases e : g' = g ∧ c' = c
  · obtain ⟨rfl, rfl⟩ := e
    rw [ur_self]
    exact he
  · rw [ur_ne σ f e]
    exact (h g' c' hd').kept (oq _ (fun z => e (hA.1 _ _ _ _ hd' hd z)))
theorem up_ur (σ : Sig) (g c j : Nat) (v : Int32) : up σ g c j v = ur σ g c (upd (σ g c) j v) := rfl
/-- what a callee may rely on, and what it says -/
def Pre (Y : Sys) (Γ : Wc) (ad : Nat → Nat → Nat) (A : Nat → Prop) (σ : Sig) (U : State) : Prop := PX Y Γ ad σ U.heap ∧ va_K Γ.1 vwCl (tyK Γ.2.1) U ∧ AX Y ad A ∧ ZH Γ A U U.heap ∧ ZV Γ U
theorem Pre.blind {Y : Sys} {Γ : Wc} {ad : Nat → Nat → Nat} {A : Nat → Prop} {σ : Sig} {av : List Value} : FrameBlind (va_Pc av (Pre Y Γ ad A σ)) := fun a U g mk q => ⟨q.1, q.2.1, va_K.moved (u := U) (U := U.calling g mk a) (Vm.Alike.refl U.vm) q.2.2.1, q.2.2.2.1, ZH.moved (u := U) (U := U.calling g mk a) (Vm.Alike.refl U.vm) q.2.2.2.2.1, ZV.same (u := U) (U := U.calling g mk a) rfl q.2.2.2.2.2⟩
abbrev Wsd (y : MethodName) (cc : ByteArray) (nL : Nat) (ret : Option FieldType) : List Cond := .code y cc nL ret :: gw
/-- the contract of a method that answers r and leaves σ' -/
def MI (l : Launch) (Y : Sys) (Γ : Wc) (ad : Nat → Nat → Nat) (A : Nat → Prop) (y : MethodName) (cc : ByteArray) (nL : Nat) (ret : Option FieldType) (fr lo : Nat) (av : List Value) (σ : Sig) (r : Int32) (σ' : Sig) : Prop :=
  Met l y (Wsd y cc nL ret) { frames := fr, cells := 0, slots := 0, locals := lo } (va_Pc av (Pre Y Γ ad A σ)) (va_Qi (fun r' (_ : Unit) => r' = r) (fun _ t => PX Y Γ ad σ' t.heap) A) 0 0 A
def MV (l : Launch) (Y : Sys) (Γ : Wc) (ad : Nat → Nat → Nat) (A : Nat → Prop) (y : MethodName) (cc : ByteArray) (nL : Nat) (fr lo : Nat) (av : List Value) (σ : Sig) (σ' : Sig) : Prop :=
  Met l y (Wsd y cc nL none) { frames := fr, cells := 0, slots := 0, locals := lo } (va_Pc av (Pre Y Γ ad A σ)) (va_Qv (fun _ : Unit => True) (fun _ t => PX Y Γ ad σ' t.heap) A) 0 0 A
section FR1
variable {p : Program} {l : Launch} {e : Env} {R : Room} {s : State} {m : MethodId} {args : Array Value} {below : List Frame} {meth : Method} {c : Code} {H : Heap} {locs : List Loc} {cells slots : Nat} {Q : State → Prop}
variable {cc : ByteArray} {pc nL : Nat} {ls : Array Slot} {rest : List Value} {Y : Sys} {Γ : Wc} {ad : Nat → Nat → Nat} {A : Nat → Prop} {σ : Sig} {own : String} {ρ : Type} {res : ρ}
-- the rows of numbers
theorem r_nm {α : Type} {a : α} {B : α → Option ρ} (hF : nm a B = some res) {P : Prop} (k : ∀ x, B x = some res → P) : P := k a hF
theorem r_iconst (cx : CX Y Γ ad A own cc nL p s m args c) {n : Int} (v : Int32) (d : decode cc pc = .ok (.iconst n, 1)) (hv : Int32.ofInt n = v) (k : W p l e R s m args below meth c H locs cells slots Q (F0 m (pc + 1) ls (.int v :: rest))) : W p l e R s m args below meth c H locs cells slots Q (F0 m pc ls rest) := lv_iconst cx.1 cx.2.1 d hv k
theorem r_bipush (cx : CX Y Γ ad A own cc nL p s m args c) {n : Int} (v : Int32) (d : decode cc pc = .ok (.bipush n, 2)) (hv : (Int8.ofInt n).toInt32 = v) (k : W p l e R s m args below meth c H locs cells slots Q (F0 m (pc + 2) ls (.int v :: rest))) : W p l e R s m args below meth c H locs cells slots Q (F0 m pc ls rest) := lv_bipush cx.1 cx.2.1 d hv k
theorem r_sipush (cx : CX Y Γ ad A own cc nL p s m args c) {n : Int} (v : Int32) (d : decode cc pc = .ok (.sipush n, 3)) (hv : (Int16.ofInt n).toInt32 = v) (k : W p l e R s m args below meth c H locs cells slots Q (F0 m (pc + 3) ls (.int v :: rest))) : W p l e R s m args below meth c H locs cells slots Q (F0 m pc ls rest) := lv_sipush cx.1 cx.2.1 d hv k
theorem r_iload_n (cx : CX Y Γ ad A own cc nL p s m args c) {k : Fin 4} {x : Int32} (d : decode cc pc = .ok (.iload_n k, 1)) (hl : ls[(k : Nat)]? = some (.val (.int x))) (kk : W p l e R s m args below meth c H locs cells slots Q (F0 m (pc + 1) ls (.int x :: rest))) : W p l e R s m args below meth c H locs cells slots Q (F0 m pc ls rest) := lv_iload_n cx.1 cx.2.1 d rfl hl kk
theorem r_iload (cx : CX Y Γ ad A own cc nL p s m args c) {i : Nat} {x : Int32} (d : decode cc pc = .ok (.iload i, 2)) (hl : ls[i]? = some (.val (.int x))) (kk : W p l e R s m args below meth c H locs cells slots Q (F0 m (pc + 2) ls (.int x :: rest))) : W p l e R s m args below meth c H locs cells slots Q (F0 m pc ls rest) := lv_iload cx.1 cx.2.1 d hl kk
theorem r_aload_n (cx : CX Y Γ ad A own cc nL p s m args c) {k : Fin 4} {x : Nat} (d : decode cc pc = .ok (.aload_n k, 1)) (hl : ls[(k : Nat)]? = some (.val (.ref x))) (kk : W p l e R s m args below meth c H locs cells slots Q (F0 m (pc + 1) ls (.ref x :: rest))) : W p l e R s m args below meth c H locs cells slots Q (F0 m pc ls rest) := lv_aload_n cx.1 cx.2.1 d rfl hl kk
theorem r_aload (cx : CX Y Γ ad A own cc nL p s m args c) {i : Nat} {x : Nat} (d : decode cc pc = .ok (.aload i, 2)) (hl : ls[i]? = some (.val (.ref x))) (kk : W p l e R s m args below meth c H locs cells slots Q (F0 m (pc + 2) ls (.ref x :: rest))) : W p l e R s m args below meth c H locs cells slots Q (F0 m pc ls rest) := lv_aload cx.1 cx.2.1 d hl kk
theorem r_istore_n (cx : CX Y Γ ad A own cc nL p s m args c) {k : Fin 4} {x : Int32} {lv : List (Nat × Value)} (lv' : List (Nat × Value)) (d : decode cc pc = .ok (.istore_n k, 1)) (h : lv_has ls nL lv) (hn : (k : Nat) < nL) (hl : ((k : Nat), Value.int x) :: lv.filter (fun q => !(q.1 == (k : Nat)) && !(q.1 + 1 == (k : Nat) && q.2.category == 2)) = lv') (kk : ∀ ls' : Array Slot, lv_has ls' nL lv' → W p l e R s m args below meth c H locs cells slots Q (F0 m (pc + 1) ls' rest)) : W p l e R s m args below meth c H locs cells slots Q (F0 m pc ls (.int x :: rest)) := lv_istore_n cx.1 cx.2.1 d rfl h hn hl kk
theorem r_istore (cx : CX Y Γ ad A own cc nL p s m args c) {i : Nat} {x : Int32} {lv : List (Nat × Value)} (lv' : List (Nat × Value)) (d : decode cc pc = .ok (.istore i, 2)) (h : lv_has ls nL lv) (hn : i < nL) (hl : (i, Value.int x) :: lv.filter (fun q => !(q.1 == i) && !(q.1 + 1 == i && q.2.category == 2)) = lv') (kk : ∀ ls' : Array Slot, lv_has ls' nL lv' → W p l e R s m args below meth c H locs cells slots Q (F0 m (pc + 2) ls' rest)) : W p l e R s m args below meth c H locs cells slots Q (F0 m pc ls (.int x :: rest)) := lv_istore cx.1 cx.2.1 d h hn hl kk
theorem r_astore_n (cx : CX Y Γ ad A own cc nL p s m args c) {k : Fin 4} {x : Nat} {lv : List (Nat × Value)} (lv' : List (Nat × Value)) (d : decode cc pc = .ok (.astore_n k, 1)) (h : lv_has ls nL lv) (hn : (k : Nat) < nL) (hl : ((k : Nat), Value.ref x) :: lv.filter (fun q => !(q.1 == (k : Nat)) && !(q.1 + 1 == (k : Nat) && q.2.category == 2)) = lv') (kk : ∀ ls' : Array Slot, lv_has ls' nL lv' → W p l e R s m args below meth c H locs cells slots Q (F0 m (pc + 1) ls' rest)) : W p l e R s m args below meth c H locs cells slots Q (F0 m pc ls (.ref x :: rest)) := lv_astore_n cx.1 cx.2.1 d rfl h hn hl kk
theorem r_iinc (cx : CX Y Γ ad A own cc nL p s m args c) {i k : Nat} {n : Int} {x w : Int32} {lv : List (Nat × Value)} (lv' : Int32 → List (Nat × Value)) (d : decode cc pc = .ok (.iinc i n, 3)) (h : lv_has ls nL lv) (hk : lv[k]? = some (i, .int x)) (hw : Int32.ofInt n = w) (hn : i < nL) {B : Int32 → Option ρ} (hF : nm (x + w) B = some res) (hl : ∀ v : Int32, (i, Value.int v) :: lv.filter (fun q => !(q.1 == i) && !(q.1 + 1 == i && q.2.category == 2)) = lv' v) (kk : ∀ (v : Int32) (ls' : Array Slot), B v = some res → lv_has ls' nL (lv' v) → W p l e R s m args below meth c H locs cells slots Q (F0 m (pc + 3) ls' rest)) : W p l e R s m args below meth c H locs cells slots Q (F0 m pc ls rest) := lv_iinc cx.1 cx.2.1 d h hk (v := x + w) (by rw [hw]) hn (hl _) (fun ls' h' => kk _ ls' hF h')
theorem r_iadd (cx : CX Y Γ ad A own cc nL p s m args c) {x y : Int32} (d : decode cc pc = .ok (.iadd, 1)) {B : Int32 → Option ρ} (hF : nm (x + y) B = some res) (k : ∀ v, B v = some res → W p l e R s m args below meth c H locs cells slots Q (F0 m (pc + 1) ls (.int v :: rest))) : W p l e R s m args below meth c H locs cells slots Q (F0 m pc ls (.int y :: .int x :: rest)) := lv_iadd cx.1 cx.2.1 d (k _ hF)
theorem r_isub (cx : CX Y Γ ad A own cc nL p s m args c) {x y : Int32} (d : decode cc pc = .ok (.isub, 1)) {B : Int32 → Option ρ} (hF : nm (x - y) B = some res) (k : ∀ v, B v = some res → W p l e R s m args below meth c H locs cells slots Q (F0 m (pc + 1) ls (.int v :: rest))) : W p l e R s m args below meth c H locs cells slots Q (F0 m pc ls (.int y :: .int x :: rest)) := lv_isub cx.1 cx.2.1 d (k _ hF)
theorem r_imul (cx : CX Y Γ ad A own cc nL p s m args c) {x y : Int32} (d : decode cc pc = .ok (.imul, 1)) {B : Int32 → Option ρ} (hF : nm (x * y) B = some res) (k : ∀ v, B v = some res → W p l e R s m args below meth c H locs cells slots Q (F0 m (pc + 1) ls (.int v :: rest))) : W p l e R s m args below meth c H locs cells slots Q (F0 m pc ls (.int y :: .int x :: rest)) := lv_imul cx.1 cx.2.1 d (k _ hF)
theorem r_iand (cx : CX Y Γ ad A own cc nL p s m args c) {x y : Int32} (d : decode cc pc = .ok (.iand, 1)) {B : Int32 → Option ρ} (hF : nm (x &&& y) B = some res) (k : ∀ v, B v = some res → W p l e R s m args below meth c H locs cells slots Q (F0 m (pc + 1) ls (.int v :: rest))) : W p l e R s m args below meth c H locs cells slots Q (F0 m pc ls (.int y :: .int x :: rest)) := lv_iand cx.1 cx.2.1 d (k _ hF)
theorem r_ior (cx : CX Y Γ ad A own cc nL p s m args c) {x y : Int32} (d : decode cc pc = .ok (.ior, 1)) {B : Int32 → Option ρ} (hF : nm (x ||| y) B = some res) (k : ∀ v, B v = some res → W p l e R s m args below meth c H locs cells slots Q (F0 m (pc + 1) ls (.int v :: rest))) : W p l e R s m args below meth c H locs cells slots Q (F0 m pc ls (.int y :: .int x :: rest)) := lv_ior cx.1 cx.2.1 d (k _ hF)
theorem r_ishl (cx : CX Y Γ ad A own cc nL p s m args c) {x y : Int32} (d : decode cc pc = .ok (.ishl, 1)) {B : Int32 → Option ρ} (hF : nm (x <<< (y &&& 31)) B = some res) (k : ∀ v, B v = some res → W p l e R s m args below meth c H locs cells slots Q (F0 m (pc + 1) ls (.int v :: rest))) : W p l e R s m args below meth c H locs cells slots Q (F0 m pc ls (.int y :: .int x :: rest)) := lv_ishl cx.1 cx.2.1 d (k _ hF)
theorem r_ishr (cx : CX Y Γ ad A own cc nL p s m args c) {x y : Int32} (d : decode cc pc = .ok (.ishr, 1)) {B : Int32 → Option ρ} (hF : nm (x >>> (y &&& 31)) B = some res) (k : ∀ v, B v = some res → W p l e R s m args below meth c H locs cells slots Q (F0 m (pc + 1) ls (.int v :: rest))) : W p l e R s m args below meth c H locs cells slots Q (F0 m pc ls (.int y :: .int x :: rest)) := lv_ishr cx.1 cx.2.1 d (k _ hF)
theorem r_iushr (cx : CX Y Γ ad A own cc nL p s m args c) {x y : Int32} (d : decode cc pc = .ok (.iushr, 1)) {B : Int32 → Option ρ} (hF : nm ((x.toUInt32 >>> (y.toUInt32 &&& Int32.toUInt32 31)).toInt32) B = some res) (k : ∀ v, B v = some res → W p l e R s m args below meth c H locs cells slots Q (F0 m (pc + 1) ls (.int v :: rest))) : W p l e R s m args below meth c H locs cells slots Q (F0 m pc ls (.int y :: .int x :: rest)) := lv_iushr cx.1 cx.2.1 d rfl (k _ hF)
theorem r_i2b (cx : CX Y Γ ad A own cc nL p s m args c) {x : Int32} (d : decode cc pc = .ok (.i2b, 1)) {B : Int32 → Option ρ} (hF : nm (x.toInt8.toInt32) B = some res) (k : ∀ v, B v = some res → W p l e R s m args below meth c H locs cells slots Q (F0 m (pc + 1) ls (.int v :: rest))) : W p l e R s m args below meth c H locs cells slots Q (F0 m pc ls (.int x :: rest)) := lv_i2b cx.1 cx.2.1 d rfl (k _ hF)
theorem r_idiv (cx : CX Y Γ ad A own cc nL p s m args c) {x y : Int32} (d : decode cc pc = .ok (.idiv, 1)) {B : Int32 → Option ρ} (hF : dvd x y B = some res) (k : ∀ v, B v = some res → W p l e R s m args below meth c H locs cells slots Q (F0 m (pc + 1) ls (.int v :: rest))) : W p l e R s m args below meth c H locs cells slots Q (F0 m pc ls (.int y :: .int x :: rest)) := lv_idiv cx.1 cx.2.1 d (dvd_some hF).1 (k _ (dvd_some hF).2)
theorem r_irem (cx : CX Y Γ ad A own cc nL p s m args c) {x y : Int32} (d : decode cc pc = .ok (.irem, 1)) {B : Int32 → Option ρ} (hF : rmd x y B = some res) (k : ∀ v, B v = some res → W p l e R s m args below meth c H locs cells slots Q (F0 m (pc + 1) ls (.int v :: rest))) : W p l e R s m args below meth c H locs cells slots Q (F0 m pc ls (.int y :: .int x :: rest)) := lv_irem cx.1 cx.2.1 d (rmd_some hF).1 (k _ (rmd_some hF).2)
theorem r_dup (cx : CX Y Γ ad A own cc nL p s m args c) {va : Value} (d : decode cc pc = .ok (.dup, 1)) (hva : va.category = 1) (k : W p l e R s m args below meth c H locs cells slots Q (F0 m (pc + 1) ls (va :: va :: rest))) : W p l e R s m args below meth c H locs cells slots Q (F0 m pc ls (va :: rest)) := lv_dup cx.1 cx.2.1 d hva k
theorem r_dup2 (cx : CX Y Γ ad A own cc nL p s m args c) {va vb : Value} (d : decode cc pc = .ok (.dup2, 1)) (hva : va.category = 1) (hvb : vb.category = 1) (k : W p l e R s m args below meth c H locs cells slots Q (F0 m (pc + 1) ls (va :: vb :: va :: vb :: rest))) : W p l e R s m args below meth c H locs cells slots Q (F0 m pc ls (va :: vb :: rest)) := lv_dup2_11 cx.1 cx.2.1 d hva hvb k
theorem r_pop (cx : CX Y Γ ad A own cc nL p s m args c) {va : Value} (d : decode cc pc = .ok (.pop, 1)) (hva : va.category = 1) (k : W p l e R s m args below meth c H locs cells slots Q (F0 m (pc + 1) ls rest)) : W p l e R s m args below meth c H locs cells slots Q (F0 m pc ls (va :: rest)) := lv_pop cx.1 cx.2.1 d hva k
theorem r_goto (cx : CX Y Γ ad A own cc nL p s m args c) {off : Int} (tgt : Nat) (d : decode cc pc = .ok (.goto off, 3)) (ht : (pc : Int) + off = (tgt : Int)) (k : W p l e R s m args below meth c H locs cells slots Q (F0 m tgt ls rest)) : W p l e R s m args below meth c H locs cells slots Q (F0 m pc ls rest) := lv_goto cx.1 cx.2.1 d ht k
theorem r_icmp_eq (cx : CX Y Γ ad A own cc nL p s m args c) {x y : Int32} {off : Int} (tgt : Nat) (d : decode cc pc = .ok (.if_icmp .eq off, 3)) (ht : (pc : Int) + off = (tgt : Int)) {T E : Option ρ} (hF : (if x = y then T else E) = some res) (kt : T = some res → W p l e R s m args below meth c H locs cells slots Q (F0 m tgt ls rest)) (ke : E = some res → W p l e R s m args below meth c H locs cells slots Q (F0 m (pc + 3) ls rest)) : W p l e R s m args below meth c H locs cells slots Q (F0 m pc ls (.int y :: .int x :: rest)) := lv_icmp_eq cx.1 cx.2.1 d ht (fun h => kt (by rw [if_pos h] at hF; exact hF)) (fun h => ke (by rw [if_neg h] at hF; exact hF))
theorem r_if_eq (cx : CX Y Γ ad A own cc nL p s m args c) {x : Int32} {off : Int} (tgt : Nat) (d : decode cc pc = .ok (.ifCond .eq off, 3)) (ht : (pc : Int) + off = (tgt : Int)) {T E : Option ρ} (hF : (if x = 0 then T else E) = some res) (kt : T = some res → W p l e R s m args below meth c H locs cells slots Q (F0 m tgt ls rest)) (ke : E = some res → W p l e R s m args below meth c H locs cells slots Q (F0 m (pc + 3) ls rest)) : W p l e R s m args below meth c H locs cells slots Q (F0 m pc ls (.int x :: rest)) := lv_if_eq cx.1 cx.2.1 d ht (fun h => kt (by rw [if_pos h] at hF; exact hF)) (fun h => ke (by rw [if_neg h] at hF; exact hF))
theorem r_icmp_ne (cx : CX Y Γ ad A own cc nL p s m args c) {x y : Int32} {off : Int} (tgt : Nat) (d : decode cc pc = .ok (.if_icmp .ne off, 3)) (ht : (pc : Int) + off = (tgt : Int)) {T E : Option ρ} (hF : (if x = y then E else T) = some res) (kt : T = some res → W p l e R s m args below meth c H locs cells slots Q (F0 m tgt ls rest)) (ke : E = some res → W p l e R s m args below meth c H locs cells slots Q (F0 m (pc + 3) ls rest)) : W p l e R s m args below meth c H locs cells slots Q (F0 m pc ls (.int y :: .int x :: rest)) := lv_icmp_ne cx.1 cx.2.1 d ht (fun h => kt (by rw [if_neg h] at hF; exact hF)) (fun h => ke (by rw [if_pos h] at hF; exact hF))
theorem r_if_ne (cx : CX Y Γ ad A own cc nL p s m args c) {x : Int32} {off : Int} (tgt : Nat) (d : decode cc pc = .ok (.ifCond .ne off, 3)) (ht : (pc : Int) + off = (tgt : Int)) {T E : Option ρ} (hF : (if x = 0 then E else T) = some res) (kt : T = some res → W p l e R s m args below meth c H locs cells slots Q (F0 m tgt ls rest)) (ke : E = some res → W p l e R s m args below meth c H locs cells slots Q (F0 m (pc + 3) ls rest)) : W p l e R s m args below meth c H locs cells slots Q (F0 m pc ls (.int x :: rest)) := lv_if_ne cx.1 cx.2.1 d ht (fun h => kt (by rw [if_neg h] at hF; exact hF)) (fun h => ke (by rw [if_pos h] at hF; exact hF))
theorem r_icmp_lt (cx : CX Y Γ ad A own cc nL p s m args c) {x y : Int32} {off : Int} (tgt : Nat) (d : decode cc pc = .ok (.if_icmp .lt off, 3)) (ht : (pc : Int) + off = (tgt : Int)) {T E : Option ρ} (hF : (if x < y then T else E) = some res) (kt : T = some res → W p l e R s m args below meth c H locs cells slots Q (F0 m tgt ls rest)) (ke : E = some res → W p l e R s m args below meth c H locs cells slots Q (F0 m (pc + 3) ls rest)) : W p l e R s m args below meth c H locs cells slots Q (F0 m pc ls (.int y :: .int x :: rest)) := lv_icmp_lt cx.1 cx.2.1 d ht (fun h => kt (by rw [if_pos h] at hF; exact hF)) (fun h => ke (by rw [if_neg h] at hF; exact hF))
theorem r_if_lt (cx : CX Y Γ ad A own cc nL p s m args c) {x : Int32} {off : Int} (tgt : Nat) (d : decode cc pc = .ok (.ifCond .lt off, 3)) (ht : (pc : Int) + off = (tgt : Int)) {T E : Option ρ} (hF : (if x < 0 then T else E) = some res) (kt : T = some res → W p l e R s m args below meth c H locs cells slots Q (F0 m tgt ls rest)) (ke : E = some res → W p l e R s m args below meth c H locs cells slots Q (F0 m (pc + 3) ls rest)) : W p l e R s m args below meth c H locs cells slots Q (F0 m pc ls (.int x :: rest)) := lv_if_lt cx.1 cx.2.1 d ht (fun h => kt (by rw [if_pos h] at hF; exact hF)) (fun h => ke (by rw [if_neg h] at hF; exact hF))
theorem r_icmp_ge (cx : CX Y Γ ad A own cc nL p s m args c) {x y : Int32} {off : Int} (tgt : Nat) (d : decode cc pc = .ok (.if_icmp .ge off, 3)) (ht : (pc : Int) + off = (tgt : Int)) {T E : Option ρ} (hF : (if y ≤ x then T else E) = some res) (kt : T = some res → W p l e R s m args below meth c H locs cells slots Q (F0 m tgt ls rest)) (ke : E = some res → W p l e R s m args below meth c H locs cells slots Q (F0 m (pc + 3) ls rest)) : W p l e R s m args below meth c H locs cells slots Q (F0 m pc ls (.int y :: .int x :: rest)) := lv_icmp_ge cx.1 cx.2.1 d ht (fun h => kt (by rw [if_pos h] at hF; exact hF)) (fun h => ke (by rw [if_neg h] at hF; exact hF))
theorem r_if_ge (cx : CX Y Γ ad A own cc nL p s m args c) {x : Int32} {off : Int} (tgt : Nat) (d : decode cc pc = .ok (.ifCond .ge off, 3)) (ht : (pc : Int) + off = (tgt : Int)) {T E : Option ρ} (hF : (if 0 ≤ x then T else E) = some res) (kt : T = some res → W p l e R s m args below meth c H locs cells slots Q (F0 m tgt ls rest)) (ke : E = some res → W p l e R s m args below meth c H locs cells slots Q (F0 m (pc + 3) ls rest)) : W p l e R s m args below meth c H locs cells slots Q (F0 m pc ls (.int x :: rest)) := lv_if_ge cx.1 cx.2.1 d ht (fun h => kt (by rw [if_pos h] at hF; exact hF)) (fun h => ke (by rw [if_neg h] at hF; exact hF))
theorem r_icmp_gt (cx : CX Y Γ ad A own cc nL p s m args c) {x y : Int32} {off : Int} (tgt : Nat) (d : decode cc pc = .ok (.if_icmp .gt off, 3)) (ht : (pc : Int) + off = (tgt : Int)) {T E : Option ρ} (hF : (if y < x then T else E) = some res) (kt : T = some res → W p l e R s m args below meth c H locs cells slots Q (F0 m tgt ls rest)) (ke : E = some res → W p l e R s m args below meth c H locs cells slots Q (F0 m (pc + 3) ls rest)) : W p l e R s m args below meth c H locs cells slots Q (F0 m pc ls (.int y :: .int x :: rest)) := lv_icmp_gt cx.1 cx.2.1 d ht (fun h => kt (by rw [if_pos h] at hF; exact hF)) (fun h => ke (by rw [if_neg h] at hF; exact hF))
theorem r_if_gt (cx : CX Y Γ ad A own cc nL p s m args c) {x : Int32} {off : Int} (tgt : Nat) (d : decode cc pc = .ok (.ifCond .gt off, 3)) (ht : (pc : Int) + off = (tgt : Int)) {T E : Option ρ} (hF : (if 0 < x then T else E) = some res) (kt : T = some res → W p l e R s m args below meth c H locs cells slots Q (F0 m tgt ls rest)) (ke : E = some res → W p l e R s m args below meth c H locs cells slots Q (F0 m (pc + 3) ls rest)) : W p l e R s m args below meth c H locs cells slots Q (F0 m pc ls (.int x :: rest)) := lv_if_gt cx.1 cx.2.1 d ht (fun h => kt (by rw [if_pos h] at hF; exact hF)) (fun h => ke (by rw [if_neg h] at hF; exact hF))
theorem r_icmp_le (cx : CX Y Γ ad A own cc nL p s m args c) {x y : Int32} {off : Int} (tgt : Nat) (d : decode cc pc = .ok (.if_icmp .le off, 3)) (ht : (pc : Int) + off = (tgt : Int)) {T E : Option ρ} (hF : (if x ≤ y then T else E) = some res) (kt : T = some res → W p l e R s m args below meth c H locs cells slots Q (F0 m tgt ls rest)) (ke : E = some res → W p l e R s m args below meth c H locs cells slots Q (F0 m (pc + 3) ls rest)) : W p l e R s m args below meth c H locs cells slots Q (F0 m pc ls (.int y :: .int x :: rest)) := lv_icmp_le cx.1 cx.2.1 d ht (fun h => kt (by rw [if_pos h] at hF; exact hF)) (fun h => ke (by rw [if_neg h] at hF; exact hF))
theorem r_if_le (cx : CX Y Γ ad A own cc nL p s m args c) {x : Int32} {off : Int} (tgt : Nat) (d : decode cc pc = .ok (.ifCond .le off, 3)) (ht : (pc : Int) + off = (tgt : Int)) {T E : Option ρ} (hF : (if x ≤ 0 then T else E) = some res) (kt : T = some res → W p l e R s m args below meth c H locs cells slots Q (F0 m tgt ls rest)) (ke : E = some res → W p l e R s m args below meth c H locs cells slots Q (F0 m (pc + 3) ls rest)) : W p l e R s m args below meth c H locs cells slots Q (F0 m pc ls (.int x :: rest)) := lv_if_le cx.1 cx.2.1 d ht (fun h => kt (by rw [if_pos h] at hF; exact hF)) (fun h => ke (by rw [if_neg h] at hF; exact hF))
end FR1
