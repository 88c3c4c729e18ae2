theorem dXg {n c : Nat} (h : n < 11) (hc : c < 29) : SX.2 (n + 1) c := ⟨h, hc⟩
theorem dXr {c : Nat} (hc : c < 8) : SX.2 0 c := hc
theorem prF {v r : Int32} {σ : Sig} (h : some v = some r) : some (v, σ) = some (r, σ) := by cases h; rfl
theorem nofu {α : Type} {r : α} {P : Prop} (h : (none : Option α) = some r) : P := by cases h
def FU : Nat := 1000
abbrev rmz (fr lo : Nat) : Room := { frames := fr, cells := 0, slots := 0, locals := lo }
abbrev QI (Y : Sys) (Γ : Wc) (ad : Nat → Nat → Nat) (A : Nat → Prop) (below : List Frame) (args : Array Value) (s : State) (r : Int32) (σ' : Sig) : State → Prop := MQ below (va_Qi (fun r' (_ : Unit) => r' = r) (fun _ t => PX Y Γ ad σ' t.heap) A) args s 0 0 A
abbrev QV (Y : Sys) (Γ : Wc) (ad : Nat → Nat → Nat) (A : Nat → Prop) (below : List Frame) (args : Array Value) (s : State) (σ' : Sig) : State → Prop := MQ below (va_Qv (fun _ : Unit => True) (fun _ t => PX Y Γ ad σ' t.heap) A) args s 0 0 A
theorem inX0 : ∀ w ∈ u_ws RX0 TX0 8, w ∈ gw := fun w h => gw_t ((by decide +kernel : ∀ w ∈ u_ws RX0 TX0 8, w ∈ tables_1) w h) (List.all_eq_true.mp (by decide +kernel : (u_ws RX0 TX0 8).all goodWord = true) w h)
theorem inX1 : ∀ w ∈ u_ws RX1 TX1 6, w ∈ gw := fun w h => gw_t ((by decide +kernel : ∀ w ∈ u_ws RX1 TX1 6, w ∈ tables_1) w h) (List.all_eq_true.mp (by decide +kernel : (u_ws RX1 TX1 6).all goodWord = true) w h)
theorem inX2 : ∀ w ∈ u_ws RX2 TX2 3, w ∈ gw := fun w h => gw_t ((by decide +kernel : ∀ w ∈ u_ws RX2 TX2 3, w ∈ tables_1) w h) (List.all_eq_true.mp (by decide +kernel : (u_ws RX2 TX2 3).all goodWord = true) w h)
theorem inX3 : ∀ w ∈ u_ws RX3 TX3 3, w ∈ gw := fun w h => gw_t ((by decide +kernel : ∀ w ∈ u_ws RX3 TX3 3, w ∈ tables_1) w h) (List.all_eq_true.mp (by decide +kernel : (u_ws RX3 TX3 3).all goodWord = true) w h)
theorem inX4 : ∀ w ∈ u_ws RX4 TX4 7, w ∈ gw := fun w h => gw_t ((by decide +kernel : ∀ w ∈ u_ws RX4 TX4 7, w ∈ tables_1) w h) (List.all_eq_true.mp (by decide +kernel : (u_ws RX4 TX4 7).all goodWord = true) w h)
theorem inX5 : ∀ w ∈ u_ws RX5 TX5 3, w ∈ gw := fun w h => gw_t ((by decide +kernel : ∀ w ∈ u_ws RX5 TX5 3, w ∈ tables_1) w h) (List.all_eq_true.mp (by decide +kernel : (u_ws RX5 TX5 3).all goodWord = true) w h)
theorem inX6 : ∀ w ∈ u_ws RX6 TX6 5, w ∈ gw := fun w h => gw_t ((by decide +kernel : ∀ w ∈ u_ws RX6 TX6 5, w ∈ tables_1) w h) (List.all_eq_true.mp (by decide +kernel : (u_ws RX6 TX6 5).all goodWord = true) w h)
theorem inX7 : ∀ w ∈ u_ws RX7 TX7 13, w ∈ gw := fun w h => gw_t ((by decide +kernel : ∀ w ∈ u_ws RX7 TX7 13, w ∈ tables_1) w h) (List.all_eq_true.mp (by decide +kernel : (u_ws RX7 TX7 13).all goodWord = true) w h)
theorem inX8 : ∀ w ∈ u_ws RX8 TX8 2, w ∈ gw := fun w h => gw_t ((by decide +kernel : ∀ w ∈ u_ws RX8 TX8 2, w ∈ tables_1) w h) (List.all_eq_true.mp (by decide +kernel : (u_ws RX8 TX8 2).all goodWord = true) w h)
theorem inX9 : ∀ w ∈ u_ws RX9 TX9 4, w ∈ gw := fun w h => gw_t ((by decide +kernel : ∀ w ∈ u_ws RX9 TX9 4, w ∈ tables_1) w h) (List.all_eq_true.mp (by decide +kernel : (u_ws RX9 TX9 4).all goodWord = true) w h)
theorem inX10 : ∀ w ∈ u_ws RX10 TX10 3, w ∈ gw := fun w h => gw_t ((by decide +kernel : ∀ w ∈ u_ws RX10 TX10 3, w ∈ tables_1) w h) (List.all_eq_true.mp (by decide +kernel : (u_ws RX10 TX10 3).all goodWord = true) w h)
theorem inX11 : ∀ w ∈ u_ws RX11 TX11 7, w ∈ gw := fun w h => gw_t ((by decide +kernel : ∀ w ∈ u_ws RX11 TX11 7, w ∈ tables_1) w h) (List.all_eq_true.mp (by decide +kernel : (u_ws RX11 TX11 7).all goodWord = true) w h)
/-- Integer.bitCount -/
def bitc (x : Int32) : Int32 :=
  let a := x - ((x.toUInt32 >>> ((1 : Int32).toUInt32 &&& Int32.toUInt32 31)).toInt32 &&& 1431655765)
  let b := (a &&& 858993459) + ((a.toUInt32 >>> ((2 : Int32).toUInt32 &&& Int32.toUInt32 31)).toInt32 &&& 858993459)
  let d := (b + (b.toUInt32 >>> ((4 : Int32).toUInt32 &&& Int32.toUInt32 31)).toInt32) &&& 252645135
  let e := d + (d.toUInt32 >>> ((8 : Int32).toUInt32 &&& Int32.toUInt32 31)).toInt32
  let f := e + (e.toUInt32 >>> ((16 : Int32).toUInt32 &&& Int32.toUInt32 31)).toInt32
  f &&& 63
section FR3
variable {p : Program} {l : Launch} {e : Env} {R : Room} {s : State} {m : MethodId} {args : Array Value} {below : List Frame} {meth : Method} {c : Code} {H : Heap} {locs : List Loc} {cells slots : Nat} {Q : State → Prop}
variable {cc : ByteArray} {pc nL : Nat} {ls : Array Slot} {rest st : List Value} {Y : Sys} {Γ : Wc} {ad : Nat → Nat → Nat} {A : Nat → Prop} {σ σ' : Sig} {own : String} {ρ : Type} {res : ρ}
theorem r_ldc (cx : CX Y Γ ad A own cc nL p s m args c) {k idx : Nat} (hk : k < strN) (ho : strOwn k = own ∧ strIdx k = idx) (d : decode cc pc = .ok (.ldc idx, 2)) (kk : W p l e R s m args below meth c H locs cells slots Q (F0 m (pc + 2) ls (.ref (Γ.2.2.1 k) :: rest))) : W p l e R s m args below meth c H locs cells slots Q (F0 m pc ls rest) := by
  obtain ⟨tx, h⟩ := cx.hV.2.1 k hk
  rw [ho.1, ho.2] at h
  exact va_ldcS cx.1 cx.2.1 cx.hown h d kk
theorem r_ldc_w (cx : CX Y Γ ad A own cc nL p s m args c) {k idx : Nat} (hk : k < strN) (ho : strOwn k = own ∧ strIdx k = idx) (d : decode cc pc = .ok (.ldc_w idx, 3)) (kk : W p l e R s m args below meth c H locs cells slots Q (F0 m (pc + 3) ls (.ref (Γ.2.2.1 k) :: rest))) : W p l e R s m args below meth c H locs cells slots Q (F0 m pc ls rest) := by
  obtain ⟨tx, h⟩ := cx.hV.2.1 k hk
  rw [ho.1, ho.2] at h
  intro T hT X
  obtain ⟨t, a1, b1⟩ := kk T hT X
  exact ⟨t, X.ldcStringW cx.1 cx.hown (text := tx) (a := Γ.2.2.1 k) h.1 h.2 (g := F0 m pc ls rest) rfl (by rw [cx.2.1]; exact d) t a1, b1⟩
end FR3
theorem tin1 {w : Cond} (h : w ∈ tables_1_1) : w ∈ tables_1 := List.mem_append_left _ h
theorem tin2 {w : Cond} (h : w ∈ tables_1_2) : w ∈ tables_1 := List.mem_append_right _ (List.mem_append_left _ h)
theorem tin3 {w : Cond} (h : w ∈ tables_1_3) : w ∈ tables_1 := List.mem_append_right _ (List.mem_append_right _ (List.mem_append_left _ h))
theorem tin4 {w : Cond} (h : w ∈ tables_1_4) : w ∈ tables_1 := List.mem_append_right _ (List.mem_append_right _ (List.mem_append_right _ (List.mem_append_left _ h)))
theorem tin5 {w : Cond} (h : w ∈ tables_1_5) : w ∈ tables_1 := List.mem_append_right _ (List.mem_append_right _ (List.mem_append_right _ (List.mem_append_right _ (List.mem_append_left _ h))))
theorem tin6 {w : Cond} (h : w ∈ tables_1_6) : w ∈ tables_1 := List.mem_append_right _ (List.mem_append_right _ (List.mem_append_right _ (List.mem_append_right _ (List.mem_append_right _ (List.mem_append_left _ h)))))
theorem tin7 {w : Cond} (h : w ∈ tables_1_7) : w ∈ tables_1 := List.mem_append_right _ (List.mem_append_right _ (List.mem_append_right _ (List.mem_append_right _ (List.mem_append_right _ (List.mem_append_right _ (h))))))
