/-! the law's own numbers: Math.floorMod, cell, of -/
def fmod (x y : Int32) : Int32 := if (0 : Int32) ≤ x ^^^ y then x - x / y * y else if x - x / y * y = 0 then x - x / y * y else x - x / y * y + y
theorem neg_iff {x : Int32} : x < 0 ↔ x.toBitVec.msb = true := by
  rw [Int32.lt_iff_toInt_lt, BitVec.msb_eq_toInt]
  show x.toInt < 0 ↔ decide (x.toBitVec.toInt < 0) = true
  rw [decide_eq_true_iff]
  rfl
theorem xor_pos {x y : Int32} (hy : 0 < y.toInt) : (0 : Int32) ≤ x ^^^ y ↔ 0 ≤ x.toInt := by
  have z0 : (0 : Int32).toInt = 0 := rfl
  have hm : y.toBitVec.msb = false := by
    cases h : y.toBitVec.msb with
    | false => rfl
    | true => have := neg_iff.mpr h; rw [lt_iff] at this; omega
  have h1 : (x ^^^ y) < 0 ↔ x < 0 := by
    rw [neg_iff, neg_iff, Int32.toBitVec_xor, BitVec.msb_xor, hm, Bool.xor_false]
  rw [lt_iff, lt_iff] at h1
  rw [le_iff]
  omega
theorem rem_t {x y : Int32} (hy : 0 < y.toInt) : (x - x / y * y).toInt = x.toInt.tmod y.toInt := by
  have hx1 := x.toInt_lt
  have hx2 := x.le_toInt
  have h1 : (x / y).toInt = x.toInt.tdiv y.toInt := Int32.toInt_div_of_ne_right _ _ (by intro e; subst e; exact absurd hy (by decide))
  have h2 := Int.tmod_add_mul_tdiv x.toInt y.toInt
  have h5 : y.toInt * x.toInt.tdiv y.toInt = x.toInt.tdiv y.toInt * y.toInt := Int.mul_comm _ _
  by_cases h : 0 ≤ x.toInt
  · have h3 := Int.tmod_nonneg y.toInt h
    have h4 := Int.tmod_lt_of_pos x.toInt hy
    have hd := Int.tdiv_nonneg h (Int.le_of_lt hy)
    have h7 : 0 ≤ x.toInt.tdiv y.toInt * y.toInt := Int.mul_nonneg hd (Int.le_of_lt hy)
    have h6 : (x / y * y).toInt = x.toInt.tdiv y.toInt * y.toInt := tv_mul h1 rfl (by omega)
    rw [tv_sub rfl h6 (by omega)]
    omega
  · have h4 := Int.tmod_lt_of_pos x.toInt hy
    have h3 : x.toInt.tmod y.toInt ≤ 0 := by
      have := Int.tmod_nonneg y.toInt (show 0 ≤ -x.toInt by omega)
      rw [Int.neg_tmod] at this
      omega
    have h8 : -y.toInt < x.toInt.tmod y.toInt := Int.lt_tmod_of_pos x.toInt hy
    have hd := Int.tdiv_nonneg (show 0 ≤ -x.toInt by omega) (Int.le_of_lt hy)
    rw [Int.neg_tdiv] at hd
    have h9 : 0 ≤ -x.toInt.tdiv y.toInt * y.toInt := Int.mul_nonneg hd (Int.le_of_lt hy)
    rw [Int.neg_mul] at h9
    have h7 : x.toInt.tdiv y.toInt * y.toInt ≤ 0 := by omega
    have h6 : (x / y * y).toInt = x.toInt.tdiv y.toInt * y.toInt := tv_mul h1 rfl (by omega)
    rw [tv_sub rfl h6 (by omega)]
    omega
theorem fmod_in {x y : Int32} (hy : 0 < y.toInt) : 0 ≤ (fmod x y).toInt ∧ (fmod x y).toInt < y.toInt := by
  have h := rem_t (x := x) hy
  have h4 := Int.tmod_lt_of_pos x.toInt hy
  have h8 : -y.toInt < x.toInt.tmod y.toInt := Int.lt_tmod_of_pos x.toInt hy
  have hy2 := y.toInt_lt
  have z0 : (0 : Int32).toInt = 0 := rfl
  unfold fmod
  by_cases c : 0 ≤ x.toInt
  · rw [if_pos ((xor_pos hy).mpr c), h]
    exact ⟨Int.tmod_nonneg y.toInt c, h4⟩
  · have h3 : x.toInt.tmod y.toInt ≤ 0 := by
      have := Int.tmod_nonneg y.toInt (show 0 ≤ -x.toInt by omega)
      rw [Int.neg_tmod] at this
      omega
    rw [if_neg (fun z => c ((xor_pos hy).mp z))]
    by_cases d : x - x / y * y = 0
    · rw [if_pos d, d, z0]; omega
    · have d2 : ¬ (x - x / y * y).toInt = 0 := fun z => d (ti_ext (by rw [z, z0]))
      rw [if_neg d, tv_add h rfl (by omega)]
      omega
/-- what only looks at the script -/
def MAi (l : Launch) (y : MethodName) (cc : ByteArray) (nL fr lo : Nat) (av : List Value) (b L : Nat) (xs : Nat → Int32) (r : Int32) : Prop :=
  Met l y (Wsd y cc nL (some .int)) { frames := fr, cells := 0, slots := 0, locals := lo } (va_Pc av (fun U => va_X b L xs U U.heap ∧ b < U.heap.size)) (va_Qi (fun r' (_ : Unit) => r' = r) (fun _ _ => True) (fun _ => False)) 0 0 (fun _ => False)
def PA (b L : Nat) (xs : Nat → Int32) (U : State) : Prop := va_X b L xs U U.heap ∧ b < U.heap.size
theorem PA.blind {b L : Nat} {xs : Nat → Int32} {av : List Value} : FrameBlind (va_Pc av (fun U => va_X b L xs U U.heap ∧ b < U.heap.size)) := fun a U g mk q => ⟨q.1, va_X.moved (u := U) (U := U.calling g mk a) (Vm.Alike.refl U.vm) q.2.1, q.2.2⟩
theorem ofWF_67 {l : Launch} {y : MethodName} {ws ws' : List Cond} {rm : Room} {Pc : Array Value → State → Prop} {Qc : Array Value → State → Outcome → State → Prop} {mc ms : Nat} {free : Addr → Prop} {cc : ByteArray} {maxL : Nat} {ret : Option FieldType}
    (hy : plainFor y = true) (hw : ws = Cond.code y cc maxL ret :: ws')
    (body : ∀ p e s m args below meth c s₁, BodyLoose p l y (headSpec ws rm) cc maxL ret e s m args below meth c s₁ → c.maxLocals = maxL → Pc args s →
      W p l e (headSpec ws rm).room s m args below meth c s.heap [] 0 0 (MQ below Qc args s mc ms free) (entryFrame m args maxL)) : Met l y ws rm Pc Qc mc ms free := by
  refine MetFree.of_bodySF (code := cc) (maxLocals := maxL) (ret := ret) hy ?_ ?_
  · intro args s m h hn
    obtain ⟨meth, c, h1, h2, h3, h4, h5, h6, -, -⟩ := Cond.code_spec hn (atoms_spec (ws := ws) h _ (by rw [hw]; exact List.mem_cons_self))
    exact ⟨meth, c, h1, h2, h3, h4, h5, h6⟩
  · intro p e s m args below meth c s₁ B hml hP _
    have hh0 : s₁.heap = s.heap := by rw [B.state]; rfl
    obtain ⟨t, a1, o, b1, b2, b3⟩ := body p e s m args below meth c s₁ B hml hP s₁ hh0 (Stand.of_body B)
    exact ⟨t, o, a1, b1, b2, ⟨b3.1, b3.2⟩⟩
theorem MAi.of {l : Launch} {y : MethodName} {cc : ByteArray} {nL fr lo : Nat} {av : List Value} {b L : Nat} {xs : Nat → Int32} {r : Int32} (hy : plainFor y = true) (hn : (lg_sl av).length ≤ nL)
    (body : ∀ (p : Program) (e : Env) (s : State) (m : MethodId) (args : Array Value) (below : List Frame) (meth : Method) (c : Code) (ls : Array Slot), CallFix p m c cc nL s args gw y.cls → meth.sig.returnType = some .int → meth.locks = false → va_X b L xs s s.heap → b < s.heap.size → lv_has ls nL (lv_args 0 av) → W p l e { frames := fr, cells := 0, slots := 0, locals := lo } s m args below meth c s.heap [] 0 0 (MQ below (va_Qi (fun r' (_ : Unit) => r' = r) (fun _ _ => True) (fun _ => False)) args s 0 0 (fun _ => False)) (F0 m 0 ls [])) : MAi l y cc nL fr lo av b L xs r := by
  refine ofWF_67 (cc := cc) (maxL := nL) (ret := some .int) hy rfl ?_
  intro p e s m args below meth c s₁ B hml hv
  obtain ⟨rfl, hX, hb⟩ := hv
  rw [lg_entry_eq]
  exact body p e s m _ below meth c _ ⟨B.exec, B.bytes, hml, findClass_of_methodNamed B.named, fun w hw => atoms_spec (ws := Wsd y cc nL (some .int)) B.pre w (List.mem_cons_of_mem _ hw)⟩ B.returns B.notSynchronized hX hb (lv_entry av hn)
section FRA
variable {p : Program} {l : Launch} {e : Env} {R : Room} {s : State} {m : MethodId} {args : Array Value} {below : List Frame} {meth : Method} {c : Code} {H : Heap} {locs : List Loc} {cells slots : Nat} {Q : State → Prop}
variable {cc : ByteArray} {pc nL : Nat} {ls : Array Slot} {rest st : List Value} {A : Nat → Prop} {own : String} {b L : Nat} {xs : Nat → Int32}
theorem MWs.call0 {index maxL n fr lo mc ms : Nat} {y : MethodName} {bytes : ByteArray} {ret : Option FieldType} (ht : ∀ w ∈ gw, w.before args s = true) (h : MWs own index y bytes maxL ret n) (hR : fr + 1 ≤ R.frames ∧ 8 + (maxL + 11) + lo ≤ R.locals) : CallB R s args own index y bytes maxL ret (Wsd y bytes maxL ret) { frames := fr, cells := mc, slots := ms, locals := lo } mc ms n ∧ (Cond.static y).before args s = true := by
  obtain ⟨h1, h2, h3, h4, h6, h7, h8⟩ := h
  exact ⟨callB_of n ht (gw_cons h4) rfl rfl rfl (ht _ h3) (ht _ h1) ⟨h6, h7, h8⟩ hR, ht _ h2⟩
theorem r_callA (cf : CallFix p m c cc nL s args gw own) (hX : va_X b L xs s s.heap) (hb : b < s.heap.size) (hbA : ¬ A b) (hS : va_S A s.heap H locs) {fr lo maxL index : Nat} {y : MethodName} {bytes : ByteArray} {r : Int32} {As : List Value} (hM : MAi l y bytes maxL fr lo As b L xs r) (hw : MWs own index y bytes maxL (some .int) As.length) (hR : fr + 1 ≤ R.frames ∧ 8 + (maxL + 11) + lo ≤ R.locals) (hst : st = As.reverse ++ rest) (hrs : (rest.map fun v => v.category).sum ≤ 8) (hsz : ls.size = nL) (hcs : cells ≤ R.cells ∧ slots ≤ R.slots) (d : decode cc pc = .ok (.invokestatic index, 3))
    (kk : ∀ (H1 : Heap) (locs1 : List Loc), H.size ≤ H1.size → (∀ q : Nat, q < H.size → H1[q]? = H[q]?) → va_S A s.heap H1 locs1 → W p l e R s m args below meth c H1 locs1 cells slots Q (F0 m (pc + 3) ls (.int r :: rest))) : W p l e R s m args below meth c H locs cells slots Q (F0 m pc ls st) := by
  refine va_calli (va_runS (As := As) (rest := rest) cf hM (hw.call0 cf.2.2.2.2 hR) ⟨PA.blind, fun U hU hW => ⟨rfl, by rw [hU]; exact (hX.kept (hS.2.1 b hb hbA)).moved hW.alike, by rw [hU]; exact Nat.lt_of_lt_of_le hb hS.1⟩⟩ rfl rfl hsz hst (lv_room hrs) d hcs) hS (fun q _ h => h.elim) (fun q h => h.elim) (fun r' u t H1 locs1 ht hvm hw hB hz1 hk1 hS => ?_)
  subst hw
  exact kk H1 locs1 hz1 (fun q h => hk1 q h (fun z => z)) hS
end FRA
theorem mwJ_13 : MWs RL 13 yJ9_floorMod_7cf53 cJ9_floorMod_7cf53 3 (some .int) 2 := ⟨gw_t (tin4 (List.mem_of_getElem? (i := 93) rfl)) rfl, gw_t (tin4 (List.mem_of_getElem? (i := 94) rfl)) rfl, gw_t (tin1 (List.mem_of_getElem? (i := 14) rfl)) rfl, gw_t (tin4 (List.mem_of_getElem? (i := 95) rfl)) rfl, by decide, by decide, by decide +kernel⟩
theorem a_floorMod (l : Launch) (b L : Nat) (xs : Nat → Int32) (x y : Int32) (hy : ¬ y = 0) : MAi l yJ9_floorMod_7cf53 cJ9_floorMod_7cf53 3 0 0 [.int x, .int y] b L xs (fmod x y) := by
  refine MAi.of (by decide +kernel) (Nat.le_of_ble_eq_true rfl) ?_
  intro p e s m args below meth c ls cf hr hk hX hb9 hl
  obtain ⟨hx, hb, hml, ho, hts⟩ := cf
  have hl : lv_has ls 3 [(0, .int x), (1, .int y)] := hl
  have fin : ∀ v : Int32, v = fmod x y → ∀ (ls : Array Slot) (pc : Nat), decode cJ9_floorMod_7cf53 pc = .ok (.ireturn, 1) → W p l e { frames := 0, cells := 0, slots := 0, locals := 0 } s m args below meth c s.heap [] 0 0 (MQ below (va_Qi (fun r' (_ : Unit) => r' = fmod x y) (fun _ _ => True) (fun _ => False)) args s 0 0 (fun _ => False)) (F0 m pc ls [.int v]) := fun v hv ls pc d => W.iret (v := v) hx hb hr (fun t ht hW => ⟨⟨v, (), rfl, hv, trivial⟩, va_S.rf.F ht⟩) (fun q hq => nomatch hq) d hk
  refine lv_iload_n hx hb dJ9_floorMod_7cf53_0 rfl (lv_at hl 0 rfl) ?_
  refine lv_iload_n hx hb dJ9_floorMod_7cf53_1 rfl (lv_at hl 1 rfl) ?_
  refine lv_irem hx hb dJ9_floorMod_7cf53_2 hy ?_
  refine lv_istore_n (lv' := [(2, .int (x - x / y * y)), (0, .int x), (1, .int y)]) hx hb dJ9_floorMod_7cf53_3 rfl hl (by decide) rfl (fun ls hl => ?_)
  refine lv_iload_n hx hb dJ9_floorMod_7cf53_4 rfl (lv_at hl 1 rfl) ?_
  refine lv_iload_n hx hb dJ9_floorMod_7cf53_5 rfl (lv_at hl 2 rfl) ?_
  refine lv_ixor hx hb dJ9_floorMod_7cf53_6 ?_
  refine lv_if_ge (tgt := 18) hx hb dJ9_floorMod_7cf53_7 (by decide) (fun c1 => ?_) (fun c1 => ?_)
  · refine lv_iload_n hx hb dJ9_floorMod_7cf53_18 rfl (lv_at hl 0 rfl) ?_
    exact fin _ (by unfold fmod; rw [if_pos c1]) ls 19 dJ9_floorMod_7cf53_19
  · refine lv_iload_n hx hb dJ9_floorMod_7cf53_10 rfl (lv_at hl 0 rfl) ?_
    refine lv_if_eq (tgt := 18) hx hb dJ9_floorMod_7cf53_11 (by decide) (fun c2 => ?_) (fun c2 => ?_)
    · refine lv_iload_n hx hb dJ9_floorMod_7cf53_18 rfl (lv_at hl 0 rfl) ?_
      exact fin _ (by unfold fmod; rw [if_neg c1, if_pos c2]) ls 19 dJ9_floorMod_7cf53_19
    · refine lv_iload_n hx hb dJ9_floorMod_7cf53_14 rfl (lv_at hl 0 rfl) ?_
      refine lv_iload_n hx hb dJ9_floorMod_7cf53_15 rfl (lv_at hl 2 rfl) ?_
      refine lv_iadd hx hb dJ9_floorMod_7cf53_16 ?_
      exact fin _ (by unfold fmod; rw [if_neg c1, if_neg c2]) ls 17 dJ9_floorMod_7cf53_17
/-- a script's cell -/
def cellv (L : Nat) (xs : Nat → Int32) (k : Nat) : Int32 := if k < L then xs k else 0
theorem mwL_7 : MWs RL 7 yL_cell cL_cell 2 (some .int) 2 := ⟨gw_t (tin4 (List.mem_of_getElem? (i := 84) rfl)) rfl, gw_t (tin4 (List.mem_of_getElem? (i := 85) rfl)) rfl, gw_t (tin1 (List.mem_of_getElem? (i := 0) rfl)) rfl, gw_t (tin4 (List.mem_of_getElem? (i := 86) rfl)) rfl, by decide, by decide, by decide +kernel⟩
theorem a_cell (l : Launch) (b L : Nat) (xs : Nat → Int32) (k : Nat) (hk9 : k < 1000) (hL : L ≤ 260) : MAi l yL_cell cL_cell 2 0 0 [.ref b, .int (Int32.ofNat k)] b L xs (cellv L xs k) := by
  refine MAi.of (by decide +kernel) (Nat.le_of_ble_eq_true rfl) ?_
  intro p e s m args below meth c ls cf hr hk hX hb9 hl
  obtain ⟨hx, hb, hml, ho, hts⟩ := cf
  have hl : lv_has ls 2 [(0, .ref b), (1, .int (Int32.ofNat k))] := hl
  have ek := oN k (by omega)
  have eL := oN L (by omega)
  have fin : ∀ v : Int32, v = cellv L xs k → W p l e { frames := 0, cells := 0, slots := 0, locals := 0 } s m args below meth c s.heap [] 0 0 (MQ below (va_Qi (fun r' (_ : Unit) => r' = cellv L xs k) (fun _ _ => True) (fun _ => False)) args s 0 0 (fun _ => False)) (F0 m 13 ls [.int v]) := fun v hv => W.iret (v := v) hx hb hr (fun t ht hW => ⟨⟨v, (), rfl, hv, trivial⟩, va_S.rf.F ht⟩) (fun q hq => nomatch hq) dL_cell_13 hk
  refine lv_iload_n hx hb dL_cell_0 rfl (lv_at hl 1 rfl) ?_
  refine lv_aload_n hx hb dL_cell_1 rfl (lv_at hl 0 rfl) ?_
  refine va_slen (A := fun _ => False) hx hb hX hb9 (fun z => z) va_S.rf dL_cell_2 ?_
  refine lv_icmp_ge (tgt := 12) hx hb dL_cell_3 (by decide) (fun c1 => ?_) (fun c1 => ?_)
  · rw [le_iff, ek, eL] at c1
    refine lv_iconst (v := 0) hx hb dL_cell_12 (by decide) ?_
    exact fin 0 (by unfold cellv; rw [if_neg (by omega)])
  · rw [le_iff, ek, eL] at c1
    have e3 : (Int32.ofNat k).toNatClampNeg = k := by
      show (Int32.ofNat k).toInt.toNat = _
      rw [ek]; exact Int.toNat_natCast _
    refine lv_aload_n hx hb dL_cell_6 rfl (lv_at hl 0 rfl) ?_
    refine lv_iload_n hx hb dL_cell_7 rfl (lv_at hl 1 rfl) ?_
    refine va_sld (A := fun _ => False) hx hb hX hb9 (fun z => z) va_S.rf ?_ dL_cell_8 ?_
    · intro q
      rcases q with q | q
      · rw [lt_iff, ek] at q
        have : (0 : Int32).toInt = 0 := rfl
        omega
      · rw [e3] at q
        omega
    · rw [e3]
      refine lv_goto (tgt := 13) hx hb dL_cell_9 (by decide) ?_
      exact fin _ (by unfold cellv; rw [if_pos (by omega)])
theorem a_of (l : Launch) (b L : Nat) (xs : Nat → Int32) (k : Nat) (lo9 many : Int32) (hk9 : k < 1000) (hL : L ≤ 260) (hm : ¬ many = 0) : MAi l yL_of cL_of 4 1 22 [.ref b, .int (Int32.ofNat k), .int lo9, .int many] b L xs (lo9 + fmod (cellv L xs k) many) := by
  refine MAi.of (by decide +kernel) (Nat.le_of_ble_eq_true rfl) ?_
  intro p e s m args below meth c ls cf hr hk hX hb9 hl
  obtain ⟨hx, hb, hml, ho, hts⟩ := id cf
  have hl : lv_has ls 4 [(0, .ref b), (1, .int (Int32.ofNat k)), (2, .int lo9), (3, .int many)] := hl
  refine lv_iload_n hx hb dL_of_0 rfl (lv_at hl 2 rfl) ?_
  refine lv_aload_n hx hb dL_of_1 rfl (lv_at hl 0 rfl) ?_
  refine lv_iload_n hx hb dL_of_2 rfl (lv_at hl 1 rfl) ?_
  refine r_callA (A := fun _ => False) cf hX hb9 (fun z => z) va_S.rf (As := [.ref b, .int (Int32.ofNat k)]) (rest := [.int lo9]) (a_cell l b L xs k hk9 hL) mwL_7 ⟨Nat.le_of_ble_eq_true rfl, Nat.le_of_ble_eq_true rfl⟩ rfl (Nat.le_of_ble_eq_true rfl) hl.1 ⟨Nat.zero_le _, Nat.zero_le _⟩ dL_of_3 (fun H1 locs1 hz1 hk1 hS => ?_)
  refine lv_iload_n hx hb dL_of_6 rfl (lv_at hl 3 rfl) ?_
  refine r_callA (A := fun _ => False) cf hX hb9 (fun z => z) hS (As := [.int (cellv L xs k), .int many]) (rest := [.int lo9]) (a_floorMod l b L xs (cellv L xs k) many hm) mwJ_13 ⟨Nat.le_of_ble_eq_true rfl, Nat.le_of_ble_eq_true rfl⟩ rfl (Nat.le_of_ble_eq_true rfl) hl.1 ⟨Nat.zero_le _, Nat.zero_le _⟩ dL_of_7 (fun H2 locs2 hz2 hk2 hS2 => ?_)
  refine lv_iadd hx hb dL_of_10 ?_
  exact W.iret (v := lo9 + fmod (cellv L xs k) many) hx hb hr (fun t ht hW => ⟨⟨_, (), rfl, rfl, trivial⟩, hS2.F ht⟩) hS2.2.2 dL_of_11 hk
