/-! printed: rows for began: the builder's calls beside the bureau's cells -/
theorem jm_L159 : MWv RL 159 yJ4_append_cf468 cJ4_append_cf468 2 (some (.object RJ4)) 1 := ⟨gw_t (tin4 (List.mem_of_getElem? (i := 227) rfl)) rfl, gw_t (tin4 (List.mem_of_getElem? (i := 228) rfl)) rfl, gw_t (tin4 (List.mem_of_getElem? (i := 229) rfl)) rfl, gw_t (tin1 (List.mem_of_getElem? (i := 28) rfl)) rfl, gw_t (tin4 (List.mem_of_getElem? (i := 230) rfl)) rfl, by decide, by decide, by decide +kernel⟩
theorem jm_L163 : MWv RL 163 yJ4_append_bf812 cJ4_append_bf812 2 (some (.object RJ4)) 1 := ⟨gw_t (tin5 (List.mem_of_getElem? (i := 0) rfl)) rfl, gw_t (tin5 (List.mem_of_getElem? (i := 1) rfl)) rfl, gw_t (tin5 (List.mem_of_getElem? (i := 2) rfl)) rfl, gw_t (tin1 (List.mem_of_getElem? (i := 28) rfl)) rfl, gw_t (tin5 (List.mem_of_getElem? (i := 3) rfl)) rfl, by decide, by decide, by decide +kernel⟩
theorem jm_L169 : MWv RL 169 yJ4_append_15ec4 cJ4_append_15ec4 2 (some (.object RJ4)) 1 := ⟨gw_t (tin5 (List.mem_of_getElem? (i := 27) rfl)) rfl, gw_t (tin4 (List.mem_of_getElem? (i := 124) rfl)) rfl, gw_t (tin4 (List.mem_of_getElem? (i := 125) rfl)) rfl, gw_t (tin1 (List.mem_of_getElem? (i := 28) rfl)) rfl, gw_t (tin4 (List.mem_of_getElem? (i := 126) rfl)) rfl, by decide, by decide, by decide +kernel⟩
theorem jm_L174 : MWv RL 174 yJ4_length_8abf5 cJ4_length_8abf5 1 (some .int) 0 := ⟨gw_t (tin5 (List.mem_of_getElem? (i := 29) rfl)) rfl, gw_t (tin5 (List.mem_of_getElem? (i := 30) rfl)) rfl, gw_t (tin5 (List.mem_of_getElem? (i := 31) rfl)) rfl, gw_t (tin1 (List.mem_of_getElem? (i := 28) rfl)) rfl, gw_t (tin5 (List.mem_of_getElem? (i := 32) rfl)) rfl, by decide, by decide, by decide +kernel⟩
theorem jm_L178 : MWv RL 178 yJ4_charAt_5068e cJ4_charAt_5068e 2 (some .char) 1 := ⟨gw_t (tin5 (List.mem_of_getElem? (i := 36) rfl)) rfl, gw_t (tin5 (List.mem_of_getElem? (i := 37) rfl)) rfl, gw_t (tin5 (List.mem_of_getElem? (i := 38) rfl)) rfl, gw_t (tin1 (List.mem_of_getElem? (i := 28) rfl)) rfl, gw_t (tin5 (List.mem_of_getElem? (i := 39) rfl)) rfl, by decide, by decide, by decide +kernel⟩
theorem jm_L156 {R : Room} {s : State} {args : Array Value} (htg : ∀ w ∈ gw, w.before args s = true) (hR : 8 + 1 ≤ R.frames ∧ 8 + (2 + 11) + 245 ≤ R.locals) : CallB R s args RL 156 yJ4_init_a7421 cJ4_init_a7421 2 none (Wsd yJ4_init_a7421 cJ4_init_a7421 2 none) { frames := 8, cells := 2, slots := 230, locals := 245 } 2 230 1 ∧ yJ4_init_a7421.name = "<init>" ∧ (Cond.instanceMethod yJ4_init_a7421).before args s = true := cwI 1 htg (gw_cons (gw_t (tin4 (List.mem_of_getElem? (i := 101) rfl)) rfl)) rfl rfl rfl (htg (.initialized RJ4) (gw_t (tin1 (List.mem_of_getElem? (i := 28) rfl)) rfl)) (htg (.methodLink RL 156 yJ4_init_a7421) (gw_t (tin4 (List.mem_of_getElem? (i := 99) rfl)) rfl)) (htg (.instanceMethod yJ4_init_a7421) (gw_t (tin4 (List.mem_of_getElem? (i := 100) rfl)) rfl)) rfl (by decide +kernel) hR
theorem jl_152 : Cond.classLink RL 152 RJ4 ∈ gw := gw_t (tin4 (List.mem_of_getElem? (i := 96) rfl)) rfl
theorem ji_J4 : Cond.instantiable RJ4 4 ∈ gw := gw_t (tin4 (List.mem_of_getElem? (i := 97) rfl)) rfl
theorem jn_J4 : Cond.initialized RJ4 ∈ gw := gw_t (tin1 (List.mem_of_getElem? (i := 28) rfl)) rfl
theorem jk_int : Cond.arrayClass .int ∈ gw := gw_t (tin1 (List.mem_of_getElem? (i := 83) rfl)) rfl
theorem mw13_182 : MWv RL 182 yX11_append cX11_append 6 (some .int) 5 := ⟨gw_t (tin5 (List.mem_of_getElem? (i := 46) rfl)) rfl, gw_t (tin5 (List.mem_of_getElem? (i := 47) rfl)) rfl, gw_t (tin5 (List.mem_of_getElem? (i := 48) rfl)) rfl, gw_t (tin1 (List.mem_of_getElem? (i := 1) rfl)) rfl, gw_t (tin5 (List.mem_of_getElem? (i := 49) rfl)) rfl, by decide, by decide, by decide +kernel⟩
theorem mw13_185 : MWv RL 185 yX11_runScript cX11_runScript 1 (some .int) 0 := ⟨gw_t (tin5 (List.mem_of_getElem? (i := 54) rfl)) rfl, gw_t (tin5 (List.mem_of_getElem? (i := 55) rfl)) rfl, gw_t (tin5 (List.mem_of_getElem? (i := 56) rfl)) rfl, gw_t (tin1 (List.mem_of_getElem? (i := 1) rfl)) rfl, gw_t (tin5 (List.mem_of_getElem? (i := 57) rfl)) rfl, by decide, by decide, by decide +kernel⟩
/-- where began may write: the bureau's cells, and what is new -/
def AG9 (ad : Nat → Nat → Nat) (N : Nat) : Nat → Prop := fun q => AXs ad q ∨ N ≤ q
def PBg (Γ : Wc) (ad : Nat → Nat → Nat) (b L : Nat) (xs : Nat → Int32) (N : Nat) (σ : Sig) (U : State) : Prop := PX SX Γ ad σ U.heap ∧ va_K Γ.1 vwCl (tyK Γ.2.1) U ∧ AX SX ad (AXs ad) ∧ ZH Γ (AG9 ad N) U U.heap ∧ ZV Γ U ∧ DG (AG9 ad N) U U.heap ∧ va_X b L xs U U.heap ∧ b < U.heap.size ∧ ¬ AXs ad b ∧ U.heap.size = N
theorem PBg.blind {Γ : Wc} {ad : Nat → Nat → Nat} {b L : Nat} {xs : Nat → Int32} {N : Nat} {σ : Sig} {av : List Value} : FrameBlind (va_Pc av (PBg Γ ad b L xs N σ)) := fun a U g mk q => ⟨q.1, q.2.1, va_K.moved (u := U) (U := U.calling g mk a) (Vm.Alike.refl U.vm) q.2.2.1, q.2.2.2.1, ZH.moved (u := U) (U := U.calling g mk a) (Vm.Alike.refl U.vm) q.2.2.2.2.1, ZV.same (u := U) (U := U.calling g mk a) rfl q.2.2.2.2.2.1, DG.moved (u := U) (U := U.calling g mk a) (Vm.Alike.refl U.vm) q.2.2.2.2.2.2.1, va_X.moved (u := U) (U := U.calling g mk a) (Vm.Alike.refl U.vm) q.2.2.2.2.2.2.2.1, q.2.2.2.2.2.2.2.2.1, q.2.2.2.2.2.2.2.2.2.1, q.2.2.2.2.2.2.2.2.2.2⟩
theorem ZStr.narrow {Γ : Wc} {A B : Nat → Prop} {U : State} {H : Heap} {i : Nat} (h : ZStr Γ A U H i) (hAB : ∀ q, B q → A q) : ZStr Γ B U H i := ⟨h.1.narrow hAB, h.2.1.narrow hAB, h.2.2.1.narrow hAB, h.2.2.2.narrow hAB⟩
theorem ZH.narrow {Γ : Wc} {A B : Nat → Prop} {U : State} {H : Heap} (h : ZH Γ A U H) (hAB : ∀ q, B q → A q) : ZH Γ B U H := ⟨h.1.narrow hAB, h.2.1.narrow hAB, h.2.2.1.narrow hAB, h.2.2.2.1.narrow hAB, fun i hi => (h.2.2.2.2 i hi).narrow hAB⟩
/-- the builder holds the letters tx -/
def TL9 (K : Nat → ClassId) (b : Nat) (tx : List Nat) (w : va_W) : Prop := ∃ v m ml a, w = wB K b v m ml (nI tx.length) a ∧ tx.length ≤ m ∧ m ≤ 130 ∧ sb_Fit a ∧ sb_Lat (fun j => tx.getD j 0) tx.length a
/-- the letters of a small number -/
def dgs (x : Nat) : List Nat := if x < 10 then [48 + x] else [48 + x / 10, 48 + x % 10]
theorem dgs_len : ∀ x, x < 100 → (dgs x).length = sb_dg x ∧ sb_dg x ≤ 2 ∧ ∀ i, i < sb_dg x → (dgs x).getD i 0 = sb_dec x i := by decide +kernel
def txs (k : Nat) : List Nat := (strB k).map (fun x => x.toInt.toNat)
theorem txs_at : ∀ k, k < strN → 14 ≤ k → (txs k).length = (strB k).length ∧ ∀ i, i < (strB k).length → (txs k).getD i 0 = strC k i := by
  intro k hk h14
  have : k = 14 ∨ k = 15 ∨ k = 16 := by unfold strN at hk; omega
  rcases this with rfl | rfl | rfl <;> decide +kernel
theorem lat_congr {t t' : Nat → Nat} {n : Nat} {a : Nat → Int32} (h : sb_Lat t n a) (e : ∀ j, j < n → t' j = t j) : sb_Lat t' n a := fun j hj => by rw [e j hj]; exact h j hj
theorem TB.tl {K : Nat → ClassId} {b : Nat} {tx ty : List Nat} {f : Nat → Nat} {k : Nat} {w : va_W} (h : TB K b (sb_cat (fun j => tx.getD j 0) tx.length f) (tx.length + k) w) (hk : ty.length = k) (hf : ∀ i, i < k → ty.getD i 0 = f i) : TL9 K b (tx ++ ty) w := by
  obtain ⟨v, m, ml, a, e, h1, h2, h3, h4⟩ := h
  have el : (tx ++ ty).length = tx.length + k := by rw [List.length_append, hk]
  rw [← el] at e h1 h4
  refine ⟨v, m, ml, a, e, h1, h2, h3, lat_congr h4 (fun j hj => ?_)⟩
  rw [el] at hj
  by_cases c : j < tx.length
  · rw [sb_cat_lo c]
    simp [List.getD, List.getElem?_append_left c]
  · obtain ⟨i, rfl⟩ : ∃ i, j = tx.length + i := ⟨j - tx.length, by omega⟩
    rw [sb_cat_hi, ← hf i (by omega)]
    simp [List.getD, List.getElem?_append_right]
section FRG
variable {p : Program} {l : Launch} {e : Env} {R : Room} {s : State} {m : MethodId} {args : Array Value} {below : List Frame} {meth : Method} {c : Code} {H : Heap} {locs : List Loc} {cells slots : Nat} {Q : State → Prop}
variable {cc : ByteArray} {pc nL : Nat} {ls : Array Slot} {rest st : List Value} {Γ : Wc} {ad : Nat → Nat → Nat} {σ σ' : Sig} {b L : Nat} {xs : Nat → Int32} {w : va_W} {bb : Nat}
/-- what stays over began's walk -/
def CGb (Γ : Wc) (ad : Nat → Nat → Nat) (b L : Nat) (xs : Nat → Int32) (cc : ByteArray) (nL : Nat) (p : Program) (s : State) (m : MethodId) (args : Array Value) (c : Code) : Prop := CallFix p m c cc nL s args gw RL ∧ va_K Γ.1 vwCl (tyK Γ.2.1) s ∧ AX SX ad (AXs ad) ∧ ZH Γ (AG9 ad s.heap.size) s s.heap ∧ ZV Γ s ∧ DG (AG9 ad s.heap.size) s s.heap ∧ va_X b L xs s s.heap ∧ b < s.heap.size ∧ ¬ AXs ad b ∧ ∀ g c, SX.2 g c → ad g c < s.heap.size
/-- what there is at a point: the bureau's cells, the builder and its like -/
def SGb (Γ : Wc) (ad : Nat → Nat → Nat) (s : State) (σ : Sig) (w : va_W) (H : Heap) (locs : List Loc) : Prop := PX SX Γ ad σ H ∧ va_P Γ.1 vwCl w H ∧ va_D (AN s.heap.size) w ∧ va_S (AG9 ad s.heap.size) s.heap H locs
theorem CGb.cx (cg : CGb Γ ad b L xs cc nL p s m args c) : CX SX Γ ad (AXs ad) RL cc nL p s m args c := ⟨cg.1.1, cg.1.2.1, cg.1.2.2.1, cg.1.2.2.2.1, cg.1.2.2.2.2, cg.2.1, cg.2.2.1, cg.2.2.2.1.narrow (fun _ h => Or.inl h), cg.2.2.2.2.1⟩
theorem CGb.nb (cg : CGb Γ ad b L xs cc nL p s m args c) : ¬ AG9 ad s.heap.size b := fun h => h.elim cg.2.2.2.2.2.2.2.2.1 (fun h => absurd cg.2.2.2.2.2.2.2.1 (Nat.not_lt.mpr h))
theorem SGb.kept (hG : SGb Γ ad s σ w H locs) {H1 : Heap} {locs1 : List Loc} (hk : ∀ q : Nat, q < H.size → H1[q]? = H[q]?) (hS : va_S (AG9 ad s.heap.size) s.heap H1 locs1) : SGb Γ ad s σ w H1 locs1 :=
  ⟨fun g c hd => (hG.1 g c hd).kept (hk _ (hG.1 g c hd).lt), hG.2.1.kept (fun k q h => hk _ (hG.2.1 k q h).lt), hG.2.2.1, hS⟩
theorem SGb.pb (cg : CGb Γ ad b L xs cc nL p s m args c) (hG : SGb Γ ad s σ w H locs) {U : State} (hU : U.heap = H) (hW : s.WarmedH U.vm) : PB Γ s.heap.size w U :=
  ⟨by rw [hU]; exact hG.2.1, hG.2.2.1, va_K.moved hW.alike cg.2.1, by rw [hU]; exact ((cg.2.2.2.1.kept hG.2.2.2.2.1).moved hW.alike).narrow (fun _ h => Or.inr h), cg.2.2.2.2.1.warm hW, by rw [hU]; exact hG.2.2.2.1, by rw [hU]; exact ((cg.2.2.2.2.2.1.kept hG.2.2.2.2.1).moved hW.alike).narrow (fun _ h => Or.inr h)⟩
theorem SGb.after (cg : CGb Γ ad b L xs cc nL p s m args c) (hG : SGb Γ ad s σ w H locs) {H1 : Heap} {locs1 : List Loc} {w1 : va_W} (hk : ∀ q : Nat, q < H.size → ¬ AN s.heap.size q → H1[q]? = H[q]?) (hP : va_P Γ.1 vwCl w1 H1) (hD : va_D (AN s.heap.size) w1) (hS : va_S (AG9 ad s.heap.size) s.heap H1 locs1) : SGb Γ ad s σ w1 H1 locs1 :=
  ⟨fun g c hd => (hG.1 g c hd).kept (hk _ (Nat.lt_of_lt_of_le (cg.2.2.2.2.2.2.2.2.2 g c hd) hG.2.2.2.1) (Nat.not_le.mpr (cg.2.2.2.2.2.2.2.2.2 g c hd))), hP, hD, hS⟩
theorem SGb.pre (cg : CGb Γ ad b L xs cc nL p s m args c) (hG : SGb Γ ad s σ w H locs) {U : State} (hU : U.heap = H) (hW : s.WarmedH U.vm) : Pre SX Γ ad (AXs ad) σ U :=
  ⟨by rw [hU]; exact hG.1, va_K.moved hW.alike cg.2.1, cg.2.2.1, by rw [hU]; exact ((cg.2.2.2.1.kept hG.2.2.2.2.1).moved hW.alike).narrow (fun _ h => Or.inl h), cg.2.2.2.2.1.warm hW⟩
/-- a call of the builder's that answers an int and changes nothing -/
theorem r_gI (cg : CGb Γ ad b L xs cc nL p s m args c) (hG : SGb Γ ad s σ w H locs) {fr lo maxL index : Nat} {y : MethodName} {bytes : ByteArray} {ret : Option FieldType} {r : Int32} {As : List Value} (hM : MBi l Γ s.heap.size y bytes maxL ret fr lo (.ref bb :: As) w r) (hrec : ∃ cell : Cell, H[bb]? = some cell ∧ cell.vm.isStatics = false ∧ s.vm.findClass y.cls = some cell.cls) (hw : MWv RL index y bytes maxL ret As.length) (hR : fr + 1 ≤ R.frames ∧ 8 + (maxL + 11) + lo ≤ R.locals) (hst : st = As.reverse ++ .ref bb :: rest) (hrs : (rest.map fun v => v.category).sum ≤ 8) (hsz : ls.size = nL) (hcs : cells ≤ R.cells ∧ slots ≤ R.slots) (d : decode cc pc = .ok (.invokevirtual index, 3))
    (kk : ∀ (H1 : Heap) (locs1 : List Loc), SGb Γ ad s σ w H1 locs1 → W p l e R s m args below meth c H1 locs1 cells slots Q (F0 m (pc + 3) ls (.int r :: rest))) : W p l e R s m args below meth c H locs cells slots Q (F0 m pc ls st) := by
  refine va_calli (va_runV (As := As) (rest := rest) cg.1 hM (hw.call0 cg.1.2.2.2.2 hR) ⟨PB.blind, hrec, fun U hU hW => ⟨rfl, hG.pb cg hU hW⟩⟩ rfl rfl hsz hst (lv_room hrs) d hcs) hG.2.2.2 (fun q _ h => Or.inr h) (fun q h => Or.inr h) (fun r' u t H1 locs1 ht hvm hw hB hz1 hk1 hS => ?_)
  subst hw
  exact kk H1 locs1 (hG.after cg hk1 (by rw [← ht]; exact hB) hG.2.2.1 hS)
/-- a call that answers the builder itself -/
theorem r_gR (cg : CGb Γ ad b L xs cc nL p s m args c) (hG : SGb Γ ad s σ w H locs) {fr lo maxL index mc ms : Nat} {y : MethodName} {bytes : ByteArray} {ret : Option FieldType} {As : List Value} {P1 : Nat → va_W → Prop} (hM : MBr l Γ s.heap.size y bytes maxL ret fr lo mc ms (.ref bb :: As) w P1) (hrec : ∃ cell : Cell, H[bb]? = some cell ∧ cell.vm.isStatics = false ∧ s.vm.findClass y.cls = some cell.cls) (hw : MWv RL index y bytes maxL ret As.length) (hR : fr + 1 ≤ R.frames ∧ 8 + (maxL + 11) + lo ≤ R.locals) (hst : st = As.reverse ++ .ref bb :: rest) (hrs : (rest.map fun v => v.category).sum ≤ 8) (hsz : ls.size = nL) (hcs : cells + mc ≤ R.cells ∧ slots + ms ≤ R.slots) (d : decode cc pc = .ok (.invokevirtual index, 3))
    (kk : ∀ (ra : Nat) (w1 : va_W) (H1 : Heap) (locs1 : List Loc), P1 ra w1 → SGb Γ ad s σ w1 H1 locs1 → W p l e R s m args below meth c H1 locs1 (cells + mc) (slots + ms) Q (F0 m (pc + 3) ls (.ref ra :: rest))) : W p l e R s m args below meth c H locs cells slots Q (F0 m pc ls st) := by
  refine va_callr (va_runV (As := As) (rest := rest) cg.1 hM (hw.call0 cg.1.2.2.2.2 hR) ⟨PB.blind, hrec, fun U hU hW => ⟨rfl, hG.pb cg hU hW⟩⟩ rfl rfl hsz hst (lv_room hrs) d hcs) hG.2.2.2 (fun q _ h => Or.inr h) (fun q h => Or.inr h) (fun u ra t H1 locs1 ht hvm hw hB hz1 hk1 hS => ?_)
  obtain ⟨w1, h1, h2, h3⟩ := hB
  exact kk ra w1 H1 locs1 h1 (hG.after cg hk1 (by rw [← ht]; exact h2) h3 hS)
theorem r_apC (cg : CGb Γ ad b L xs cc nL p s m args c) (hG : SGb Γ ad s σ w H locs) {tx : List Nat} (hT : TL9 Γ.2.1 bb tx w) (ch : Nat) (hc : ch < 256) (hl : tx.length < 64) (hR : 6 ≤ R.frames ∧ 171 ≤ R.locals) {x : Int32} (hx : x = nI ch) (hrs : (rest.map fun v => v.category).sum ≤ 8) (hsz : ls.size = nL) (hcs : cells + 1 ≤ R.cells ∧ slots + 200 ≤ R.slots) (d : decode cc pc = .ok (.invokevirtual 159, 3))
    (kk : ∀ (w1 : va_W) (H1 : Heap) (locs1 : List Loc), TL9 Γ.2.1 bb (tx ++ [ch]) w1 → SGb Γ ad s σ w1 H1 locs1 → W p l e R s m args below meth c H1 locs1 (cells + 1) (slots + 200) Q (F0 m (pc + 3) ls (.ref bb :: rest))) : W p l e R s m args below meth c H locs cells slots Q (F0 m pc ls (.int x :: .ref bb :: rest)) := by
  subst hx
  obtain ⟨v, cm, ml, a, rfl, h1, h2, h3, h4⟩ := hT
  refine r_gR cg hG (As := [.int (nI ch)]) (q4_appendC l Γ s.heap.size bb v cm ml tx.length a _ ch ⟨h1, h2, hl⟩ h3 h4 hc) (sb_recv cg.2.1 hG.2.1) jm_L159 hR rfl hrs hsz hcs d (fun ra w1 H1 locs1 hp hG1 => ?_)
  obtain ⟨rfl, hp⟩ := hp
  exact kk w1 H1 locs1 (hp.tl rfl (fun i hi => by rw [show i = 0 by omega]; rfl)) hG1
theorem r_apI (cg : CGb Γ ad b L xs cc nL p s m args c) (hG : SGb Γ ad s σ w H locs) {tx : List Nat} (hT : TL9 Γ.2.1 bb tx w) (n : Nat) (hn : n < 100) (hl : tx.length < 63) (hR : 6 ≤ R.frames ∧ 176 ≤ R.locals) {x : Int32} (hx : x = nI n) (hrs : (rest.map fun v => v.category).sum ≤ 8) (hsz : ls.size = nL) (hcs : cells + 1 ≤ R.cells ∧ slots + 200 ≤ R.slots) (d : decode cc pc = .ok (.invokevirtual 163, 3))
    (kk : ∀ (w1 : va_W) (H1 : Heap) (locs1 : List Loc), TL9 Γ.2.1 bb (tx ++ dgs n) w1 → SGb Γ ad s σ w1 H1 locs1 → W p l e R s m args below meth c H1 locs1 (cells + 1) (slots + 200) Q (F0 m (pc + 3) ls (.ref bb :: rest))) : W p l e R s m args below meth c H locs cells slots Q (F0 m pc ls (.int x :: .ref bb :: rest)) := by
  subst hx
  obtain ⟨v, cm, ml, a, rfl, h1, h2, h3, h4⟩ := hT
  obtain ⟨g1, g2, g3⟩ := dgs_len n hn
  refine r_gR cg hG (As := [.int (nI n)]) (q4_appendI l Γ s.heap.size bb v cm ml tx.length a _ n hn ⟨h1, h2, by omega⟩ h3 h4) (sb_recv cg.2.1 hG.2.1) jm_L163 hR rfl hrs hsz hcs d (fun ra w1 H1 locs1 hp hG1 => ?_)
  obtain ⟨rfl, hp⟩ := hp
  exact kk w1 H1 locs1 (hp.tl g1 g3) hG1
theorem r_apS (cg : CGb Γ ad b L xs cc nL p s m args c) (hG : SGb Γ ad s σ w H locs) {tx : List Nat} (hT : TL9 Γ.2.1 bb tx w) (k : Nat) (hk : k < strN) (hk14 : 14 ≤ k) (hl : tx.length < 58) (hR : 6 ≤ R.frames ∧ 176 ≤ R.locals) (hrs : (rest.map fun v => v.category).sum ≤ 8) (hsz : ls.size = nL) (hcs : cells + 1 ≤ R.cells ∧ slots + 200 ≤ R.slots) (d : decode cc pc = .ok (.invokevirtual 169, 3))
    (kk : ∀ (w1 : va_W) (H1 : Heap) (locs1 : List Loc), TL9 Γ.2.1 bb (tx ++ txs k) w1 → SGb Γ ad s σ w1 H1 locs1 → W p l e R s m args below meth c H1 locs1 (cells + 1) (slots + 200) Q (F0 m (pc + 3) ls (.ref bb :: rest))) : W p l e R s m args below meth c H locs cells slots Q (F0 m pc ls (.ref (Γ.2.2.1 k) :: .ref bb :: rest)) := by
  obtain ⟨v, cm, ml, a, rfl, h1, h2, h3, h4⟩ := hT
  obtain ⟨g1, g2⟩ := txs_at k hk hk14
  have g4 := (str_l k hk hk14).1
  refine r_gR cg hG (As := [.ref (Γ.2.2.1 k)]) (q4_appendS l Γ s.heap.size bb v cm ml tx.length a _ k hk hk14 ⟨h1, h2, by omega⟩ h3 h4) (sb_recv cg.2.1 hG.2.1) jm_L169 hR rfl hrs hsz hcs d (fun ra w1 H1 locs1 hp hG1 => ?_)
  obtain ⟨rfl, hp⟩ := hp
  exact kk w1 H1 locs1 (hp.tl g1 g2) hG1
/-- a cell of the script -/
theorem r_gA (cg : CGb Γ ad b L xs cc nL p s m args c) (hG : SGb Γ ad s σ w H locs) {fr lo maxL index : Nat} {y : MethodName} {bytes : ByteArray} {r : Int32} {As : List Value} (hM : MAi l y bytes maxL fr lo As b L xs r) (hw : MWs RL index y bytes maxL (some .int) As.length) (hR : fr + 1 ≤ R.frames ∧ 8 + (maxL + 11) + lo ≤ R.locals) (hst : st = As.reverse ++ rest) (hrs : (rest.map fun v => v.category).sum ≤ 8) (hsz : ls.size = nL) (hcs : cells ≤ R.cells ∧ slots ≤ R.slots) (d : decode cc pc = .ok (.invokestatic index, 3))
    (kk : ∀ (H1 : Heap) (locs1 : List Loc), SGb Γ ad s σ w H1 locs1 → W p l e R s m args below meth c H1 locs1 cells slots Q (F0 m (pc + 3) ls (.int r :: rest))) : W p l e R s m args below meth c H locs cells slots Q (F0 m pc ls st) :=
  r_callA cg.1 cg.2.2.2.2.2.2.1 cg.2.2.2.2.2.2.2.1 cg.nb hG.2.2.2 hM hw hR hst hrs hsz hcs d (fun H1 locs1 _ hk hS => kk H1 locs1 (hG.kept hk hS))
/-- a call of the bureau's -/
theorem r_gX (cg : CGb Γ ad b L xs cc nL p s m args c) (hG : SGb Γ ad s σ w H locs) {fr lo maxL index : Nat} {y : MethodName} {bytes : ByteArray} {ret : Option FieldType} {r : Int32} {As : List Value} (hM : MI l SX Γ ad (AXs ad) y bytes maxL ret fr lo (.ref (ad 0 0) :: As) σ r σ') (hw : MWv RL index y bytes maxL ret As.length) (hy : y.cls = RX11) (hR : fr + 1 ≤ R.frames ∧ 8 + (maxL + 11) + lo ≤ R.locals) (hst : st = As.reverse ++ .ref (ad 0 0) :: rest) (hrs : (rest.map fun v => v.category).sum ≤ 8) (hsz : ls.size = nL) (hcs : cells ≤ R.cells ∧ slots ≤ R.slots) (d : decode cc pc = .ok (.invokevirtual index, 3))
    (kk : ∀ (H1 : Heap) (locs1 : List Loc), SGb Γ ad s σ' w H1 locs1 → W p l e R s m args below meth c H1 locs1 cells slots Q (F0 m (pc + 3) ls (.int r :: rest))) : W p l e R s m args below meth c H locs cells slots Q (F0 m pc ls st) := by
  have hrec : ∃ cell : Cell, H[ad 0 0]? = some cell ∧ cell.vm.isStatics = false ∧ s.vm.findClass RX11 = some cell.cls := va_recv (q := (RX11, TX11, 7)) cg.2.1 (vaP1 (hG.1 0 0 (dXr (by decide)))) rfl (q0 := 0) rfl
  rw [← hy] at hrec
  refine va_calli (va_runV (As := As) (rest := rest) cg.1 hM (hw.call0 cg.1.2.2.2.2 hR) ⟨Pre.blind, hrec, fun U hU hW => ⟨rfl, hG.pre cg hU hW⟩⟩ rfl rfl hsz hst (lv_room hrs) d hcs) hG.2.2.2 (fun q _ h => Or.inl h) (fun q h => Or.inl h) (fun r' u t H1 locs1 ht hvm hw hB hz1 hk1 hS => ?_)
  subst hw
  refine kk H1 locs1 ⟨by rw [← ht]; exact hB, hG.2.1.kept (fun k q h => hk1 _ (hG.2.1 k q h).lt (fun z => ?_)), hG.2.2.1, hS⟩
  obtain ⟨g, c9, h1, h2⟩ := z
  have h3 := cg.2.2.2.2.2.2.2.2.2 g c9 h1
  have h4 : s.heap.size ≤ q.1 := hG.2.2.1.2 k q h
  omega
/-- a row of five ints -/
theorem r_gN (cg : CGb Γ ad b L xs cc nL p s m args c) (hG : SGb Γ ad s σ w H locs) (hcs : cells + 1 ≤ R.cells ∧ slots + 5 ≤ R.slots) (d : decode cc pc = .ok (.newarray .int, 2))
    (kk : ∀ (q : Nat) (H1 : Heap), SGb Γ ad s σ (w ++ [(q, .inl (Γ.2.1 0, 5, .inl (fun _ => 0)))]) H1 locs → W p l e R s m args below meth c H1 locs (cells + 1) (slots + 5) Q (F0 m (pc + 2) ls (.ref q :: rest))) : W p l e R s m args below meth c H locs cells slots Q (F0 m pc ls (.int 5 :: rest)) := by
  refine va_newaK (atype := .int) (N := 5) cg.1.1 cg.1.2.1 (cg.1.2.2.2.2 _ jk_int) rfl d rfl (by decide) (by decide) (by decide) hcs.1 hcs.2 rfl (fun H1 cA e1 z1 o1 hAr hNm => ?_)
  have h1 : s.vm.findClass _ = some (Γ.2.1 0) := (cg.2.1.2 0 _ rfl).2
  have ec := h1.symm.trans hNm
  cases ec
  have hk : ∀ q : Nat, q < H.size → H1[q]? = H[q]? := o1
  refine kk H.size H1 ⟨fun g c hd => (hG.1 g c hd).kept (hk _ (hG.1 g c hd).lt), (hG.2.1.kept (fun k q h => hk _ (hG.2.1 k q h).lt)).app (vaP1 ?_), hG.2.2.1.push hG.2.1 rfl hG.2.2.2.1, ⟨Nat.le_trans hG.2.2.2.1 (by omega), fun q h1 h2 => (hk q (Nat.lt_of_lt_of_le h1 hG.2.2.2.1)).trans (hG.2.2.2.2.1 q h1 h2), hG.2.2.2.2.2⟩⟩
  exact e1
theorem r_gSt (cg : CGb Γ ad b L xs cc nL p s m args c) {a v cm : Nat} {ml n : Int32} {f : Nat → Int32} {wd : Nat} {g : Nat → Int32} (hG : SGb Γ ad s σ (wC Γ.2.1 a v cm ml n f [(wd, .inl (Γ.2.1 0, 5, .inl g))]) H locs) {i x : Int32} (hin : vp_in i 5) (d : decode cc pc = .ok (.iastore, 1))
    (kk : ∀ (H1 : Heap) (locs1 : List Loc), SGb Γ ad s σ (wC Γ.2.1 a v cm ml n f [(wd, .inl (Γ.2.1 0, 5, .inl (upd g i.toNatClampNeg x)))]) H1 locs1 → W p l e R s m args below meth c H1 locs1 cells slots Q (F0 m (pc + 1) ls rest)) : W p l e R s m args below meth c H locs cells slots Q (F0 m pc ls (.int x :: .int i :: .ref wd :: rest)) := by
  have hlt : s.heap.size ≤ wd := hG.2.2.1.2 2 _ rfl
  refine W.iast cg.1.1 cg.1.2.1 (hG.2.1 2 _ rfl) ((cg.2.1.2 0 _ rfl).1 5 (fun j => .int (g j))) (fun q => by cases q) (by show ¬ (i < 0 ∨ (arrV _ _ _).slots.size ≤ _); rw [arrV_size]; exact hin) rfl rfl d fun H1 e z oq => ?_
  refine kk H1 _ ⟨fun g c hd => (hG.1 g c hd).kept (oq (ad g c) (Nat.ne_of_lt (Nat.lt_of_lt_of_le (cg.2.2.2.2.2.2.2.2.2 g c hd) hlt))), va_P.set (p := 2) hG.2.1 hG.2.2.1 rfl ?_ oq, va_D.set (p := 2) hG.2.2.1 rfl, hG.2.2.2.put z oq (Or.inr hlt)⟩
  show H1[wd]? = some (vp_cell _ _)
  rw [e]
  rw [vp_cell_i, vp_cell_i, arrV_store]
  congr 2
  funext q
  by_cases hq : q = i.toNatClampNeg
  · subst hq
    simp [updV, upd]
  · simp [updV, upd, hq]
end FRG
