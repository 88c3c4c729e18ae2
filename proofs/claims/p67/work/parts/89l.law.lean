/-! printed: the law's body -/
theorem ml_314 : MWs RL 314 yL_isSound cL_isSound 7 (some .boolean) 1 := ⟨gw_t (tin6 (List.mem_of_getElem? (i := 120) rfl)) rfl, gw_t (tin6 (List.mem_of_getElem? (i := 121) rfl)) rfl, gw_t (tin1 (List.mem_of_getElem? (i := 0) rfl)) rfl, gw_t (tin6 (List.mem_of_getElem? (i := 122) rfl)) rfl, by decide, by decide, by decide +kernel⟩
theorem ml_318 : MWs RL 318 yL_isGuarded cL_isGuarded 10 (some .boolean) 3 := ⟨gw_t (tin7 (List.mem_of_getElem? (i := 59) rfl)) rfl, gw_t (tin7 (List.mem_of_getElem? (i := 60) rfl)) rfl, gw_t (tin1 (List.mem_of_getElem? (i := 0) rfl)) rfl, gw_t (tin7 (List.mem_of_getElem? (i := 61) rfl)) rfl, by decide, by decide, by decide +kernel⟩
theorem ml_322 : MWs RL 322 yL_isAlike cL_isAlike 10 (some .boolean) 3 := ⟨gw_t (tin7 (List.mem_of_getElem? (i := 82) rfl)) rfl, gw_t (tin7 (List.mem_of_getElem? (i := 83) rfl)) rfl, gw_t (tin1 (List.mem_of_getElem? (i := 0) rfl)) rfl, gw_t (tin7 (List.mem_of_getElem? (i := 84) rfl)) rfl, by decide, by decide, by decide +kernel⟩
theorem ml_325 : MWs RL 325 yL_began cL_began 8 (some .int) 2 := ⟨gw_t (tin4 (List.mem_of_getElem? (i := 87) rfl)) rfl, gw_t (tin4 (List.mem_of_getElem? (i := 88) rfl)) rfl, gw_t (tin1 (List.mem_of_getElem? (i := 0) rfl)) rfl, gw_t (tin4 (List.mem_of_getElem? (i := 89) rfl)) rfl, by decide, by decide, by decide +kernel⟩
theorem ml_329 : MWs RL 329 yL_act cL_act 8 none 3 := ⟨gw_t (tin5 (List.mem_of_getElem? (i := 64) rfl)) rfl, gw_t (tin5 (List.mem_of_getElem? (i := 65) rfl)) rfl, gw_t (tin1 (List.mem_of_getElem? (i := 0) rfl)) rfl, gw_t (tin5 (List.mem_of_getElem? (i := 66) rfl)) rfl, by decide, by decide, by decide +kernel⟩
theorem start_68 : ∃ σ0 G, fX = some (xg σ0 8 G) ∧ HS σ0 [] ∧ Gok 0 G ∧ σ0 0 4 1 = 0 ∧ (G 5 0).toInt = 3 := by
  obtain ⟨σ1, e1, hX, hσ⟩ := fill_ok σi
  obtain ⟨i9, i10, i11, i12, i13, i14, i15, i16, h17⟩ := chain_67
  have hz : σ1 (10 + 1) = Z0 := funext fun c => by
    rw [hσ _ _ (by omega)]
    funext j
    exact if_neg (by omega)
  have e2 := found_x hX hz ⟨i9, i10, i11, i12, i13, i14, i15, i16⟩
  obtain ⟨f1, f2, f3, f4, f5⟩ := end_x σ1 g17_ (Int32.ofNat (tK FT FL 189)) (Int32.ofNat (tA FT FL 189)) (Int32.ofNat (tE FT FL 189)) 0 (-1)
  have e3 : fX = f4_copyFrom 8 10 (up (XS FT FL σ1 189 g17_) 0 4 1 0) := by
    unfold fX
    rw [e1]
    simp only [bnd_eq]
    rw [e2]
    simp only [bnd_eq, nm_eq]
  rw [e3]
  generalize up (XS FT FL σ1 189 g17_) 0 4 1 0 = S at f1 f2 f3 f4 f5 ⊢
  obtain ⟨H', q3, ag⟩ := x_copy (σ := S) (n := 8) (n1 := 10) (G := g17_) (H := S 9) (by decide) f5 h17.1
  rw [xg_self] at q3
  have s0 : ∀ c, ¬ c = 3 → ¬ c = 4 → ¬ c = 5 → ∀ j, S 0 c j = 0 := fun c h3 h4 h5 j => by
    rw [f1 0 c (by omega) (by omega), hσ 0 c (by omega)]
    exact if_neg (by omega)
  exact ⟨S, H', q3, ⟨0, 0, s0 1 (by decide) (by decide) (by decide) 1, s0 1 (by decide) (by decide) (by decide) 2, by omega, by omega, Nat.le_refl _, fun i G h => by cases h⟩, h17.ag ag, f4, by rw [ag.s3]; decide +kernel⟩
abbrev AS9 (s : State) : Nat → Prop := fun q => s.heap.size ≤ q
def LF9 (Γ : Wc) (ad : Nat → Nat → Nat) (b L : Nat) (xs : Nat → Int32) (p : Program) (s : State) (m : MethodId) (args : Array Value) (c : Code) : Prop := CallFix p m c cL_law 4 s args gw RL ∧ va_K Γ.1 vwCl (tyK Γ.2.1) s ∧ AX SX ad (AXs ad) ∧ (∀ q, AXs ad q → s.heap.size ≤ q) ∧ ZH Γ (AS9 s) s s.heap ∧ ZV Γ s ∧ NC s ∧ DG (AS9 s) s s.heap ∧ va_X b L xs s s.heap ∧ b < s.heap.size
section FRL
variable {p : Program} {l : Launch} {e : Env} {R : Room} {s : State} {m : MethodId} {args : Array Value} {below : List Frame} {meth : Method} {c : Code} {H : Heap} {locs : List Loc} {cells slots : Nat} {Q : State → Prop}
variable {pc : Nat} {ls : Array Slot} {rest st : List Value} {Γ : Wc} {ad : Nat → Nat → Nat} {σ σ' : Sig} {b L : Nat} {xs : Nat → Int32}
theorem LF9.pre (lf : LF9 Γ ad b L xs p s m args c) (hP : PX SX Γ ad σ H) (hS : va_S (AS9 s) s.heap H locs) {U : State} (hU : U.heap = H) (hW : s.WarmedH U.vm) : Pre SX Γ ad (AXs ad) σ U := by
  obtain ⟨cf, hK, hA, hsub, hZ, hV, hN, hDG, hX, hb9⟩ := lf
  exact ⟨by rw [hU]; exact hP, va_K.moved hW.alike hK, hA, by rw [hU]; exact ((hZ.kept hS.2.1).moved hW.alike).narrow hsub, hV.warm hW⟩
theorem LF9.nb (lf : LF9 Γ ad b L xs p s m args c) : ¬ AS9 s b := Nat.not_le.mpr lf.2.2.2.2.2.2.2.2.2
theorem LF9.nx (lf : LF9 Γ ad b L xs p s m args c) : ¬ AXs ad b := fun h => lf.nb (lf.2.2.2.1 b h)
theorem LF9.x (lf : LF9 Γ ad b L xs p s m args c) (hS : va_S (AS9 s) s.heap H locs) {U : State} (hU : U.heap = H) (hW : s.WarmedH U.vm) : va_X b L xs U U.heap ∧ b < U.heap.size := by
  obtain ⟨cf, hK, hA, hsub, hZ, hV, hN, hDG, hX, hb9⟩ := id lf
  rw [hU]
  exact ⟨(hX.kept (hS.2.1 b hb9 lf.nb)).moved hW.alike, Nat.lt_of_lt_of_le hb9 hS.1⟩
theorem r_lI (lf : LF9 Γ ad b L xs p s m args c) (hP : PX SX Γ ad σ H) (hS : va_S (AS9 s) s.heap H locs) {fr lo maxL index : Nat} {y : MethodName} {bytes : ByteArray} {ret : Option FieldType} {r : Int32} {As : List Value} (hM : MI l SX Γ ad (AXs ad) y bytes maxL ret fr lo As σ r σ') (hw : MWs RL index y bytes maxL ret As.length) (hR : fr + 1 ≤ R.frames ∧ 8 + (maxL + 11) + lo ≤ R.locals) (hst : st = As.reverse ++ rest) (hrs : (rest.map fun v => v.category).sum ≤ 8) (hsz : ls.size = 4) (hcs : cells ≤ R.cells ∧ slots ≤ R.slots) (d : decode cL_law pc = .ok (.invokestatic index, 3))
    (kk : ∀ (H1 : Heap) (locs1 : List Loc), PX SX Γ ad σ' H1 → va_S (AS9 s) s.heap H1 locs1 → W p l e R s m args below meth c H1 locs1 cells slots Q (F0 m (pc + 3) ls (.int r :: rest))) : W p l e R s m args below meth c H locs cells slots Q (F0 m pc ls st) := by
  have hsub := lf.2.2.2.1
  refine va_calli (va_runS (As := As) (rest := rest) lf.1 hM (hw.call0 lf.1.2.2.2.2 hR) ⟨Pre.blind, fun U hU hW => ⟨rfl, lf.pre hP hS hU hW⟩⟩ rfl rfl hsz hst (lv_room hrs) d hcs) hS (fun q _ h => hsub q h) hsub (fun r' u t H1 locs1 ht hvm hw hB hz1 hk1 hS => ?_)
  subst hw
  exact kk H1 locs1 (by rw [← ht]; exact hB) hS
theorem r_lV (lf : LF9 Γ ad b L xs p s m args c) (hP : PX SX Γ ad σ H) (hS : va_S (AS9 s) s.heap H locs) {fr lo maxL index : Nat} {y : MethodName} {bytes : ByteArray} {ret : Option FieldType} {r : Int32} (hM : MI l SX Γ ad (AXs ad) y bytes maxL ret fr lo [.ref (ad 0 0)] σ r σ') (hw : MWv RL index y bytes maxL ret 0) (hy : y.cls = RX11) (hR : fr + 1 ≤ R.frames ∧ 8 + (maxL + 11) + lo ≤ R.locals) (hrs : (rest.map fun v => v.category).sum ≤ 8) (hsz : ls.size = 4) (hcs : cells ≤ R.cells ∧ slots ≤ R.slots) (d : decode cL_law pc = .ok (.invokevirtual index, 3))
    (kk : ∀ (H1 : Heap) (locs1 : List Loc), PX SX Γ ad σ' H1 → va_S (AS9 s) s.heap H1 locs1 → W p l e R s m args below meth c H1 locs1 cells slots Q (F0 m (pc + 3) ls (.int r :: rest))) : W p l e R s m args below meth c H locs cells slots Q (F0 m pc ls (.ref (ad 0 0) :: rest)) := by
  have hsub := lf.2.2.2.1
  have hrec : ∃ cell : Cell, H[ad 0 0]? = some cell ∧ cell.vm.isStatics = false ∧ s.vm.findClass RX11 = some cell.cls := va_recv (q := (RX11, TX11, 7)) lf.2.1 (vaP1 (hP 0 0 (dXr (by decide)))) rfl (q0 := 0) rfl
  rw [← hy] at hrec
  refine va_calli (va_runV (As := []) (rest := rest) lf.1 hM (hw.call0 lf.1.2.2.2.2 hR) ⟨Pre.blind, hrec, fun U hU hW => ⟨rfl, lf.pre hP hS hU hW⟩⟩ rfl rfl hsz rfl (lv_room hrs) d hcs) hS (fun q _ h => hsub q h) hsub (fun r' u t H1 locs1 ht hvm hw hB hz1 hk1 hS => ?_)
  subst hw
  exact kk H1 locs1 (by rw [← ht]; exact hB) hS
theorem r_lC (lf : LF9 Γ ad b L xs p s m args c) (hP : PX SX Γ ad σ H) (hS : va_S (AS9 s) s.heap H locs) (hL : L ≤ 260) {k : Nat} (hk : k < 1000) (hR : 1 ≤ R.frames ∧ 21 ≤ R.locals) (hsz : ls.size = 4) (hcs : cells ≤ R.cells ∧ slots ≤ R.slots) (d : decode cL_law pc = .ok (.invokestatic 7, 3))
    (kk : ∀ (H1 : Heap) (locs1 : List Loc), PX SX Γ ad σ H1 → va_S (AS9 s) s.heap H1 locs1 → W p l e R s m args below meth c H1 locs1 cells slots Q (F0 m (pc + 3) ls [.int (cellv L xs k)])) : W p l e R s m args below meth c H locs cells slots Q (F0 m pc ls [.int (Int32.ofNat k), .ref b]) :=
  r_callA lf.1 lf.2.2.2.2.2.2.2.2.1 lf.2.2.2.2.2.2.2.2.2 lf.nb hS (As := [.ref b, .int (Int32.ofNat k)]) (rest := []) (a_cell l b L xs k hk hL) mwL_7 hR rfl (Nat.le_of_ble_eq_true rfl) hsz hcs d (fun H1 locs1 _ hk hS => kk H1 locs1 (fun g k hd => (hP g k hd).kept (hk _ (hP g k hd).lt)) hS)
theorem r_lA (lf : LF9 Γ ad b L xs p s m args c) (hst : l.stackTraces = false) {G : Gd} (hP : PX SX Γ ad (xg σ 8 G) H) (hS : va_S (AS9 s) s.heap H locs) (hL : L ≤ 260) {k n : Nat} (hk : k < 900) (hn : n ≤ 998) (hs : HS σ []) (hG : Gok n G) (hR : 11 ≤ R.frames ∧ 237 ≤ R.locals) (hsz : ls.size = 4) (hcs : cells + 5 ≤ R.cells ∧ slots + 30 ≤ R.slots) (d : decode cL_law pc = .ok (.invokestatic 329, 3))
    (kk : ∀ (σ1 : Sig) (G1 : Gd) (H1 : Heap) (locs1 : List Loc), PX SX Γ ad (xg σ1 8 G1) H1 → va_S (AS9 s) s.heap H1 locs1 → HS σ1 [] → Gok (n + 2) G1 → W p l e R s m args below meth c H1 locs1 (cells + 5) (slots + 30) Q (F0 m (pc + 3) ls [])) : W p l e R s m args below meth c H locs cells slots Q (F0 m pc ls [.int (Int32.ofNat k), .ref b, .ref (ad 0 0)]) := by
  have hsub := lf.2.2.2.1
  refine va_callv (va_runS (As := [.ref (ad 0 0), .ref b, .int (Int32.ofNat k)]) (rest := []) lf.1 (w_act l hst Γ ad (AXs ad) b L xs k n hk hL hn σ G hs hG) (ml_329.call0 lf.1.2.2.2.2 hR) ⟨PAct.blind, fun U hU hW => ⟨rfl, lf.pre hP hS hU hW, lf.2.2.2.2.2.2.1.moved hW.alike, (lf.x hS hU hW).1, (lf.x hS hU hW).2, lf.nx⟩⟩ rfl rfl hsz rfl (lv_room (Nat.le_of_ble_eq_true rfl)) d hcs) hS (fun q _ h => hsub q h) hsub (fun u t H1 locs1 ht hvm hw hB hz1 hk1 hS => ?_)
  obtain ⟨σ1, G1, h1, h2, h3⟩ := hB
  exact kk σ1 G1 H1 locs1 (by rw [← ht]; exact h1) hS h2 h3
theorem r_lB (lf : LF9 Γ ad b L xs p s m args c) {G : Gd} (hP : PX SX Γ ad (xg σ 8 G) H) (hS : va_S (AS9 s) s.heap H locs) (hL : L ≤ 260) (hs : HS σ []) (hG : Gok 0 G) (h0 : σ 0 4 1 = 0) (hR : 11 ≤ R.frames ∧ 327 ≤ R.locals) (hsz : ls.size = 4) (hcs : cells + 60 ≤ R.cells ∧ slots + 12000 ≤ R.slots) (d : decode cL_law pc = .ok (.invokestatic 325, 3))
    (kk : ∀ (σ1 : Sig) (G1 : Gd) (H1 : Heap) (locs1 : List Loc), PX SX Γ ad (xg σ1 8 G1) H1 → va_S (AS9 s) s.heap H1 locs1 → HS σ1 [] → Gok 0 G1 → W p l e R s m args below meth c H1 locs1 (cells + 60) (slots + 12000) Q (F0 m (pc + 3) ls [.int 0])) : W p l e R s m args below meth c H locs cells slots Q (F0 m pc ls [.ref b, .ref (ad 0 0)]) := by
  obtain ⟨cf, hK, hA, hsub, hZ, hV, hN, hDG, hX, hb9⟩ := id lf
  obtain ⟨q0, q1, q2⟩ := began_67 L xs hs hG h0
  have hs9 : ∀ q, AG9 ad H.size q → AS9 s q := fun q h => h.elim (hsub q) (fun h => Nat.le_trans hS.1 h)
  refine va_calli (va_runS (As := [.ref (ad 0 0), .ref b]) (rest := []) cf (w_began l Γ ad b L xs H.size hL (xg σ 8 G) (fun σ' => ∃ σ2 G2, σ' = xg σ2 8 G2 ∧ HS σ2 [] ∧ Gok 0 G2) _ q0 q1 q2) (ml_325.call0 cf.2.2.2.2 hR) ⟨PBg.blind, fun U hU hW => ⟨rfl, by rw [hU]; exact hP, va_K.moved hW.alike hK, hA, by rw [hU]; exact ((hZ.kept hS.2.1).moved hW.alike).narrow hs9, hV.warm hW, by rw [hU]; exact ((hDG.kept hS.2.1).moved hW.alike).narrow hs9, (lf.x hS hU hW).1, (lf.x hS hU hW).2, lf.nx, by rw [hU]⟩⟩ rfl rfl hsz rfl (lv_room (Nat.le_of_ble_eq_true rfl)) d hcs) hS (fun q _ h => hs9 q h) hs9 (fun r' u t H1 locs1 ht hvm hw hB hz1 hk1 hS => ?_)
  subst hw
  obtain ⟨σ1, h1, σ2, G2, rfl, h2, h3⟩ := hB
  exact kk σ2 G2 H1 locs1 (by rw [← ht]; exact h1) hS h2 h3
end FRL
theorem and26 (x : Int32) : 0 ≤ (x &&& 67108863).toInt := by
  rw [Jvm.Kit.i32_mask x 67108863 (k := 26) (by decide) (by decide)]
  exact Int.emod_nonneg _ (by decide)
set_option maxHeartbeats 8000000 in
set_option maxRecDepth 100000 in
theorem law_loop {p : Program} {l : Launch} {e : Env} {s : State} {m : MethodId} {args : Array Value} {below : List Frame} {meth : Method} {c : Code} {Γ : Wc} {ad : Nat → Nat → Nat} {b L : Nat} {xs : Nat → Int32} {Q : State → Prop} (lf : LF9 Γ ad b L xs p s m args c) (hst : l.stackTraces = false) (hL : L ≤ 260) (K : ∀ (H : Heap) (locs : List Loc) (ls : Array Slot), va_S (AS9 s) s.heap H locs → W p l e room_1 s m args below meth c H locs (400 + 5 * 30) (19000 + 30 * 30) Q (F0 m 154 ls [])) : ∀ (k i : Nat), i + k = 30 → ∀ (σ : Sig) (G : Gd) (H : Heap) (locs : List Loc) (ls : Array Slot), PX SX Γ ad (xg σ 8 G) H → va_S (AS9 s) s.heap H locs → HS σ [] → Gok (2 * i) G → lv_has ls 4 [(2, .int (nI (10 + 2 * i))), (1, .ref (ad 0 0)), (0, .ref b)] → W p l e room_1 s m args below meth c H locs (400 + 5 * i) (19000 + 30 * i) Q (F0 m 47 ls []) := by
  intro k
  have hx := lf.1.1
  have hb := lf.1.2.1
  have hown := lf.1.2.2.2.1
  induction k with
  | zero =>
    intro i hi σ G H locs ls hP hS hs hG hl
    have hi : i = 30 := by omega
    subst hi
    refine lv_iload_n hx hb dL_law_47 rfl (lv_at hl 0 rfl) ?_
    refine lv_bipush (v := 70) hx hb dL_law_48 (by decide) ?_
    exact lv_icmp_ge (tgt := 154) hx hb dL_law_50 (by decide) (fun _ => K H locs ls hS) (fun c1 => absurd (show (70 : Int32) ≤ nI (10 + 2 * 30) by decide) c1)
  | succ k ih =>
    intro i hi σ G H locs ls hP hS hs hG hl
    refine lv_iload_n hx hb dL_law_47 rfl (lv_at hl 0 rfl) ?_
    refine lv_bipush (v := 70) hx hb dL_law_48 (by decide) ?_
    refine lv_icmp_ge (tgt := 154) hx hb dL_law_50 (by decide) (fun c1 => absurd c1 (show ¬ nI 70 ≤ nI (10 + 2 * i) from nI_ge (show 10 + 2 * i < 70 by omega) (by decide))) (fun _ => ?_)
    refine lv_aload_n hx hb dL_law_53 rfl (lv_at hl 1 rfl) ?_
    refine lv_aload_n hx hb dL_law_54 rfl (lv_at hl 2 rfl) ?_
    refine lv_iload_n hx hb dL_law_55 rfl (lv_at hl 0 rfl) ?_
    refine r_lA lf hst hP hS hL (k := 10 + 2 * i) (n := 2 * i) (by omega) (by omega) hs hG ⟨Nat.le_of_ble_eq_true rfl, Nat.le_of_ble_eq_true rfl⟩ hl.1 ⟨by show _ ≤ 600086; omega, by show _ ≤ 7301442; omega⟩ dL_law_56 (fun σ G H locs hP hS hs hG => ?_)
    refine lv_aload_n hx hb dL_law_59 rfl (lv_at hl 2 rfl) ?_
    refine lv_iload_n hx hb dL_law_60 rfl (lv_at hl 0 rfl) ?_
    refine r_lC lf hP hS hL (k := 10 + 2 * i) (by omega) ⟨Nat.le_of_ble_eq_true rfl, Nat.le_of_ble_eq_true rfl⟩ hl.1 ⟨by show _ ≤ 600086; omega, by show _ ≤ 7301442; omega⟩ dL_law_61 (fun H locs hP hS => ?_)
    refine lv_iconst (v := 5) hx hb dL_law_64 (by decide) ?_
    refine lv_ishr hx hb dL_law_65 ?_
    refine lv_ldcw (v := 67108863) hx hb hown (lf.1.2.2.2.2 _ kc13_333) dL_law_66 ?_
    refine lv_iand hx hb dL_law_69 ?_
    have hu : 0 ≤ ((((cellv L xs (10 + 2 * i)) >>> (5 &&& 31)) &&& 67108863)).toInt := and26 _
    generalize (((cellv L xs (10 + 2 * i)) >>> (5 &&& 31)) &&& 67108863) = u at hu ⊢
    refine lv_istore_n (lv' := [(3, .int u), (2, .int (nI (10 + 2 * i))), (1, .ref (ad 0 0)), (0, .ref b)]) hx hb dL_law_70 rfl hl (by decide) rfl (fun ls hl => ?_)
    refine lv_aload_n hx hb dL_law_71 rfl (lv_at hl 2 rfl) ?_
    refine r_lI lf hP hS (As := [.ref (ad 0 0)]) (rest := []) (w13_isSound l Γ ad (AXs ad) _ _ _ (sound_67 hG)) ml_314 ⟨Nat.le_of_ble_eq_true rfl, Nat.le_of_ble_eq_true rfl⟩ rfl (Nat.le_of_ble_eq_true rfl) hl.1 ⟨by show _ ≤ 600086; omega, by show _ ≤ 7301442; omega⟩ dL_law_72 (fun H locs hP hS => ?_)
    refine lv_if_ne (tgt := 80) hx hb dL_law_75 (by decide) (fun _ => ?_) (fun c1 => absurd c1 (by decide))
    have c148 : ∀ (σ : Sig) (G : Gd) (H : Heap) (locs : List Loc), PX SX Γ ad (xg σ 8 G) H → va_S (AS9 s) s.heap H locs → HS σ [] → Gok (2 * i + 2) G → W p l e room_1 s m args below meth c H locs (400 + 5 * i + 5) (19000 + 30 * i + 30) Q (F0 m 148 ls []) := by
      intro σ G H locs hP hS hs hG
      refine lv_iinc (v := nI (10 + 2 * (i + 1))) (lv' := [(2, .int (nI (10 + 2 * (i + 1)))), (3, .int u), (1, .ref (ad 0 0)), (0, .ref b)]) hx hb dL_law_148 hl (k := 1) rfl (nI_add (10 + 2 * i) 2) (by decide) rfl (fun ls hl => ?_)
      refine lv_goto (tgt := 47) hx hb dL_law_151 (by decide) ?_
      refine W.widen (k := 400 + 5 * (i + 1)) (n := 19000 + 30 * (i + 1)) (by omega) (by omega) ?_
      exact ih (i + 1) (by omega) σ G H locs ls hP hS hs hG (lv_sub hl [0, 2, 3] rfl)
    have c111 : ∀ (σ : Sig) (G : Gd) (H : Heap) (locs : List Loc), PX SX Γ ad (xg σ 8 G) H → va_S (AS9 s) s.heap H locs → HS σ [] → Gok (2 * i + 2) G → W p l e room_1 s m args below meth c H locs (400 + 5 * i + 5) (19000 + 30 * i + 30) Q (F0 m 111 ls []) := by
      intro σ G H locs hP hS hs hG
      refine lv_iload_n hx hb dL_law_111 rfl (lv_at hl 1 rfl) ?_
      refine lv_bipush (v := 6) hx hb dL_law_112 (by decide) ?_
      refine lv_irem hx hb dL_law_114 (by decide) ?_
      refine lv_iconst (v := 4) hx hb dL_law_115 (by decide) ?_
      refine lv_icmp_ne (tgt := 148) hx hb dL_law_116 (by decide) (fun _ => c148 σ G H locs hP hS hs hG) (fun _ => ?_)
      refine lv_aload_n hx hb dL_law_119 rfl (lv_at hl 2 rfl) ?_
      refine lv_iconst (v := 1) hx hb dL_law_120 (by decide) ?_
      refine lv_iload_n hx hb dL_law_121 rfl (lv_at hl 0 rfl) ?_
      refine lv_bipush (v := 8) hx hb dL_law_122 (by decide) ?_
      refine lv_idiv hx hb dL_law_124 (by decide) ?_
      refine lv_bipush (v := 30) hx hb dL_law_125 (by decide) ?_
      refine lv_irem hx hb dL_law_127 (by decide) ?_
      refine lv_iadd hx hb dL_law_128 ?_
      refine lv_iconst (v := 1) hx hb dL_law_129 (by decide) ?_
      refine lv_iload_n hx hb dL_law_130 rfl (lv_at hl 0 rfl) ?_
      refine lv_sipush (v := 256) hx hb dL_law_131 (by decide) ?_
      refine lv_idiv hx hb dL_law_134 (by decide) ?_
      refine lv_sipush (v := 200) hx hb dL_law_135 (by decide) ?_
      refine lv_irem hx hb dL_law_138 (by decide) ?_
      refine lv_iadd hx hb dL_law_139 ?_
      have e1 : (1 : Int32).toInt = 1 := rfl
      have e30 : (30 : Int32).toInt = 30 := rfl
      have e200 : (200 : Int32).toInt = 200 := rfl
      have r1 := rem_b (x := u / 8) (y := 30) (tdv hu (by decide)) (by decide)
      have r2 := rem_b (x := u / 256) (y := 200) (tdv hu (by decide)) (by decide)
      have f1 : ((1 + ((u / 8) - (u / 8) / 30 * 30))).toInt = 1 + (u / 8 - u / 8 / 30 * 30).toInt := tv_add e1 rfl (by omega)
      have f2 : ((1 + ((u / 256) - (u / 256) / 200 * 200))).toInt = 1 + (u / 256 - u / 256 / 200 * 200).toInt := tv_add e1 rfl (by omega)
      have ht := hG.2.2.2.2.2.2
      obtain ⟨σ2, G2, h1, h2, h3, -⟩ := alike_67 (s := (1 + ((u / 8) - (u / 8) / 30 * 30))) (t := (1 + ((u / 256) - (u / 256) / 200 * 200))) hs hG.1 ⟨by omega, by omega⟩ ⟨by omega, by omega⟩ (by omega)
      refine r_lI lf hP hS (As := [.ref (ad 0 0), .int (1 + ((u / 8) - (u / 8) / 30 * 30)), .int (1 + ((u / 256) - (u / 256) / 200 * 200))]) (rest := []) (w13_isAlike l Γ ad (AXs ad) _ _ _ _ _ h1) ml_322 ⟨Nat.le_of_ble_eq_true rfl, Nat.le_of_ble_eq_true rfl⟩ rfl (Nat.le_of_ble_eq_true rfl) hl.1 ⟨by show _ ≤ 600086; omega, by show _ ≤ 7301442; omega⟩ dL_law_140 (fun H locs hP hS => ?_)
      exact lv_if_ne (tgt := 148) hx hb dL_law_143 (by decide) (fun _ => c148 σ2 G2 H locs hP hS h3 (hG.ag h2)) (fun c1 => absurd c1 (by decide))
    refine lv_aload_n hx hb dL_law_80 rfl (lv_at hl 2 rfl) ?_
    refine r_lV lf hP hS (w11_cardCount l Γ ad (AXs ad) (xg σ 8 G) _ v_cardCount) mw13_194 rfl ⟨Nat.le_of_ble_eq_true rfl, Nat.le_of_ble_eq_true rfl⟩ (Nat.le_of_ble_eq_true rfl) hl.1 ⟨by show _ ≤ 600086; omega, by show _ ≤ 7301442; omega⟩ dL_law_81 (fun H locs hP hS => ?_)
    refine lv_if_le (tgt := 111) hx hb dL_law_84 (by decide) (fun _ => c111 σ G H locs hP hS hs hG) (fun c1 => ?_)
    have z0 : (0 : Int32).toInt = 0 := rfl
    rw [le_iff, z0] at c1
    have hbd : 1 ≤ (G 3 0).toInt := hG.2.1.1
    refine lv_aload_n hx hb dL_law_87 rfl (lv_at hl 2 rfl) ?_
    refine lv_iload_n hx hb dL_law_88 rfl (lv_at hl 0 rfl) ?_
    refine lv_aload_n hx hb dL_law_89 rfl (lv_at hl 2 rfl) ?_
    refine r_lV lf hP hS (w11_cardCount l Γ ad (AXs ad) (xg σ 8 G) _ v_cardCount) mw13_194 rfl ⟨Nat.le_of_ble_eq_true rfl, Nat.le_of_ble_eq_true rfl⟩ (Nat.le_of_ble_eq_true rfl) hl.1 ⟨by show _ ≤ 600086; omega, by show _ ≤ 7301442; omega⟩ dL_law_90 (fun H locs hP hS => ?_)
    refine lv_irem hx hb dL_law_93 (fun z => by rw [z, z0] at c1; omega) ?_
    refine lv_iload_n hx hb dL_law_94 rfl (lv_at hl 0 rfl) ?_
    refine lv_bipush (v := 64) hx hb dL_law_95 (by decide) ?_
    refine lv_idiv hx hb dL_law_97 (by decide) ?_
    refine lv_aload_n hx hb dL_law_98 rfl (lv_at hl 2 rfl) ?_
    refine r_lV lf hP hS (w11_bedCount l Γ ad (AXs ad) (xg σ 8 G) _ v_bedCount) mw13_197 rfl ⟨Nat.le_of_ble_eq_true rfl, Nat.le_of_ble_eq_true rfl⟩ (Nat.le_of_ble_eq_true rfl) hl.1 ⟨by show _ ≤ 600086; omega, by show _ ≤ 7301442; omega⟩ dL_law_99 (fun H locs hP hS => ?_)
    refine lv_irem hx hb dL_law_102 (fun z => by rw [z, z0] at hbd; omega) ?_
    have r1 := rem_b (x := u) (y := G 5 0) hu (by omega)
    have r2 := rem_b (x := u / 64) (y := G 3 0) (tdv hu (by decide)) (by omega)
    obtain ⟨σ2, G2, h1, h2, h3, -⟩ := guard_67 (k := (u - u / G 5 0 * G 5 0).toInt.toNat) (b := (u / 64 - u / 64 / G 3 0 * G 3 0).toInt.toNat) hs hG (a := u - u / G 5 0 * G 5 0) (c := u / 64 - u / 64 / G 3 0 * G 3 0) (by omega) (by omega) (by omega) (by omega)
    refine r_lI lf hP hS (As := [.ref (ad 0 0), .int (u - u / G 5 0 * G 5 0), .int (u / 64 - u / 64 / G 3 0 * G 3 0)]) (rest := []) (w13_isGuarded l Γ ad (AXs ad) _ _ _ _ _ h1) ml_318 ⟨Nat.le_of_ble_eq_true rfl, Nat.le_of_ble_eq_true rfl⟩ rfl (Nat.le_of_ble_eq_true rfl) hl.1 ⟨by show _ ≤ 600086; omega, by show _ ≤ 7301442; omega⟩ dL_law_103 (fun H locs hP hS => ?_)
    exact lv_if_ne (tgt := 111) hx hb dL_law_106 (by decide) (fun _ => c111 σ2 G2 H locs hP hS h3 (hG.ag h2)) (fun c1 => absurd c1 (by decide))
set_option maxHeartbeats 8000000 in
set_option maxRecDepth 100000 in
theorem law_begin {p : Program} {l : Launch} {e : Env} {s : State} {m : MethodId} {args : Array Value} {below : List Frame} {meth : Method} {c : Code} {Γ : Wc} {ad : Nat → Nat → Nat} {b L : Nat} {xs : Nat → Int32} {Q : State → Prop} (lf : LF9 Γ ad b L xs p s m args c) (hst : l.stackTraces = false) (hL : L ≤ 260) (K : ∀ (H : Heap) (locs : List Loc) (ls : Array Slot), va_S (AS9 s) s.heap H locs → W p l e room_1 s m args below meth c H locs (400 + 5 * 30) (19000 + 30 * 30) Q (F0 m 154 ls [])) {σ : Sig} {G : Gd} {H : Heap} {locs : List Loc} {ls : Array Slot} (hP : PX SX Γ ad (xg σ 8 G) H) (hS : va_S (AS9 s) s.heap H locs) (hs : HS σ []) (hG : Gok 0 G) (h0 : σ 0 4 1 = 0) (h5 : (G 5 0).toInt = 3) (hl : lv_has ls 4 [(1, .ref (ad 0 0)), (0, .ref b)]) : W p l e room_1 s m args below meth c H locs (327) (6747) Q (F0 m 8 ls []) := by
  have hx := lf.1.1
  have hb := lf.1.2.1
  refine lv_aload_n hx hb dL_law_8 rfl (lv_at hl 0 rfl) ?_
  refine r_lI lf hP hS (As := [.ref (ad 0 0)]) (rest := []) (w13_isSound l Γ ad (AXs ad) _ _ _ (sound_67 hG)) ml_314 ⟨Nat.le_of_ble_eq_true rfl, Nat.le_of_ble_eq_true rfl⟩ rfl (Nat.le_of_ble_eq_true rfl) hl.1 ⟨Nat.le_of_ble_eq_true rfl, Nat.le_of_ble_eq_true rfl⟩ dL_law_9 (fun H locs hP hS => ?_)
  refine lv_if_eq (tgt := 42) hx hb dL_law_12 (by decide) (fun c1 => absurd c1 (by decide)) (fun _ => ?_)
  refine lv_aload_n hx hb dL_law_15 rfl (lv_at hl 0 rfl) ?_
  refine lv_iconst (v := 1) hx hb dL_law_16 (by decide) ?_
  refine lv_iconst (v := 0) hx hb dL_law_17 (by decide) ?_
  have hbd : 1 ≤ (G 3 0).toInt := hG.2.1.1
  obtain ⟨σ2, G2, q1, q2, q3, q4⟩ := guard_67 (k := 1) (b := 0) hs hG (a := 1) (c := 0) rfl rfl (by omega) (by omega)
  refine r_lI lf hP hS (As := [.ref (ad 0 0), .int 1, .int 0]) (rest := []) (w13_isGuarded l Γ ad (AXs ad) _ _ _ _ _ q1) ml_318 ⟨Nat.le_of_ble_eq_true rfl, Nat.le_of_ble_eq_true rfl⟩ rfl (Nat.le_of_ble_eq_true rfl) hl.1 ⟨Nat.le_of_ble_eq_true rfl, Nat.le_of_ble_eq_true rfl⟩ dL_law_18 (fun H locs hP hS => ?_)
  refine lv_if_eq (tgt := 42) hx hb dL_law_21 (by decide) (fun c1 => absurd c1 (by decide)) (fun _ => ?_)
  refine lv_aload_n hx hb dL_law_24 rfl (lv_at hl 0 rfl) ?_
  refine lv_iconst (v := 5) hx hb dL_law_25 (by decide) ?_
  refine lv_bipush (v := 100) hx hb dL_law_26 (by decide) ?_
  have hG2 := hG.ag q2
  have ht := hG2.2.2.2.2.2.2
  obtain ⟨σ3, G3, z1, z2, z3, z4⟩ := alike_67 (s := 5) (t := 100) q3 hG2.1 ⟨by decide, by decide⟩ ⟨by decide, by decide⟩ (by rw [show (5 : Int32).toInt = 5 from rfl, show (100 : Int32).toInt = 100 from rfl]; omega)
  refine r_lI lf hP hS (As := [.ref (ad 0 0), .int 5, .int 100]) (rest := []) (w13_isAlike l Γ ad (AXs ad) _ _ _ _ _ z1) ml_322 ⟨Nat.le_of_ble_eq_true rfl, Nat.le_of_ble_eq_true rfl⟩ rfl (Nat.le_of_ble_eq_true rfl) hl.1 ⟨Nat.le_of_ble_eq_true rfl, Nat.le_of_ble_eq_true rfl⟩ dL_law_28 (fun H locs hP hS => ?_)
  refine lv_if_eq (tgt := 42) hx hb dL_law_31 (by decide) (fun c1 => absurd c1 (by decide)) (fun _ => ?_)
  refine lv_aload_n hx hb dL_law_34 rfl (lv_at hl 0 rfl) ?_
  refine lv_aload_n hx hb dL_law_35 rfl (lv_at hl 1 rfl) ?_
  refine r_lB lf hP hS hL z3 (hG2.ag z2) (by rw [z4 4 (by decide), q4 4 (by decide)]; exact h0) ⟨Nat.le_of_ble_eq_true rfl, Nat.le_of_ble_eq_true rfl⟩ hl.1 ⟨Nat.le_of_ble_eq_true rfl, Nat.le_of_ble_eq_true rfl⟩ dL_law_36 (fun σ4 G4 H locs hP hS hs4 hG4 => ?_)
  refine lv_if_eq (tgt := 44) hx hb dL_law_39 (by decide) (fun _ => ?_) (fun c1 => absurd rfl c1)
  refine lv_bipush (v := 10) hx hb dL_law_44 (by decide) ?_
  refine lv_istore_n (lv' := [(2, .int 10), (1, .ref (ad 0 0)), (0, .ref b)]) hx hb dL_law_46 rfl hl (by decide) rfl (fun ls hl => ?_)
  refine W.widen (k := 400 + 5 * 0) (n := 19000 + 30 * 0) (by decide) (by decide) ?_
  exact law_loop lf hst hL K 30 0 rfl σ4 G4 H locs ls hP hS hs4 hG4 hl
