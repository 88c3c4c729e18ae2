/-! printed: act: one step of the script -/
theorem mw13_191 : Cond.methodLink RL 191 Lib.Math.max.name ∈ gw ∧ Cond.static Lib.Math.max.name ∈ gw ∧ Cond.initialized "java/lang/Math" ∈ gw ∧ Cond.code Lib.Math.max.name Lib.Math.max.code 2 (some .int) ∈ gw := ⟨gw_t (tin5 (List.mem_of_getElem? (i := 71) rfl)) rfl, gw_t (tin4 (List.mem_of_getElem? (i := 16) rfl)) rfl, gw_t (tin1 (List.mem_of_getElem? (i := 14) rfl)) rfl, gw_t (tin4 (List.mem_of_getElem? (i := 17) rfl)) rfl⟩
theorem mw13_148 : MWs RL 148 yL_of cL_of 4 (some .int) 4 := ⟨gw_t (tin4 (List.mem_of_getElem? (i := 90) rfl)) rfl, gw_t (tin4 (List.mem_of_getElem? (i := 91) rfl)) rfl, gw_t (tin1 (List.mem_of_getElem? (i := 0) rfl)) rfl, gw_t (tin4 (List.mem_of_getElem? (i := 92) rfl)) rfl, by decide, by decide, by decide +kernel⟩
theorem mw13_234 : Cond.methodLink RL 234 Lib.Math.min.name ∈ gw ∧ Cond.static Lib.Math.min.name ∈ gw ∧ Cond.initialized "java/lang/Math" ∈ gw ∧ Cond.code Lib.Math.min.name Lib.Math.min.code 2 (some .int) ∈ gw := ⟨gw_t (tin6 (List.mem_of_getElem? (i := 110) rfl)) rfl, gw_t (tin2 (List.mem_of_getElem? (i := 142) rfl)) rfl, gw_t (tin1 (List.mem_of_getElem? (i := 14) rfl)) rfl, gw_t (tin2 (List.mem_of_getElem? (i := 143) rfl)) rfl⟩
theorem kc13_166 : Cond.constant RL 166 2147483647 ∈ gw := gw_t (tin5 (List.mem_of_getElem? (i := 25) rfl)) rfl
theorem kc13_333 : Cond.constant RL 333 67108863 ∈ gw := gw_t (tin7 (List.mem_of_getElem? (i := 110) rfl)) rfl
theorem and31 (x : Int32) : 0 ≤ (x &&& 2147483647).toInt := by
  rw [Jvm.Kit.i32_mask x 2147483647 (k := 31) (by decide) (by decide)]
  exact Int.emod_nonneg _ (by decide)
theorem rem_lt {v y : Int32} (hv : 0 ≤ v.toInt) (hy : 0 < y.toInt) (hy2 : y.toInt ≤ 150) : (1 + (v - v / y * y)).toInt ≤ 150 := by
  have h := rem_t (x := v) hy
  have h1 := Int.tmod_nonneg y.toInt hv
  have h2 := Int.tmod_lt_of_pos v.toInt hy
  rw [tv_add (show (1 : Int32).toInt = 1 from rfl) h (by omega)]
  omega
theorem max_n0 {n : Int32} (h : 0 ≤ n.toInt) : ¬ (if (1 : Int32) < n then n else 1) = 0 := by
  split
  · rename_i q
    intro z
    rw [z] at q
    exact absurd q (by decide)
  · decide
/-- what a step has at hand -/
def PAct (Γ : Wc) (ad : Nat → Nat → Nat) (A : Nat → Prop) (b L : Nat) (xs : Nat → Int32) (σ : Sig) (U : State) : Prop := Pre SX Γ ad A σ U ∧ NC U ∧ va_X b L xs U U.heap ∧ b < U.heap.size ∧ ¬ A b
theorem PAct.blind {Γ : Wc} {ad : Nat → Nat → Nat} {A : Nat → Prop} {b L : Nat} {xs : Nat → Int32} {σ : Sig} {av : List Value} : FrameBlind (va_Pc av (PAct Γ ad A b L xs σ)) := fun a U g mk q => ⟨q.1, ⟨q.2.1.1, va_K.moved (u := U) (U := U.calling g mk a) (Vm.Alike.refl U.vm) q.2.1.2.1, q.2.1.2.2.1, ZH.moved (u := U) (U := U.calling g mk a) (Vm.Alike.refl U.vm) q.2.1.2.2.2.1, ZV.same (u := U) (U := U.calling g mk a) rfl q.2.1.2.2.2.2⟩, NC.moved (u := U) (U := U.calling g mk a) (Vm.Alike.refl U.vm) q.2.2.1, va_X.moved (u := U) (U := U.calling g mk a) (Vm.Alike.refl U.vm) q.2.2.2.1, q.2.2.2.2.1, q.2.2.2.2.2⟩
set_option maxHeartbeats 8000000 in
set_option maxRecDepth 100000 in
theorem act_57 {p : Program} {l : Launch} (hst : l.stackTraces = false) {e : Env} {s : State} {m : MethodId} {args : Array Value} {below : List Frame} {meth : Method} {c : Code} {Γ : Wc} {ad : Nat → Nat → Nat} {A : Nat → Prop} {σ : Sig} {G : Gd} {n : Nat} (cx : CX SX Γ ad A RL cL_act 8 p s m args c) (hr : meth.sig.returnType = none) (hnl : meth.locks = false) (hN : NC s) (hn : n ≤ 998) (hs : HS σ []) (hG : Gok n G) {H : Heap} {locs : List Loc} (hP : PS SX Γ ad A s (xg σ 8 G) H locs) {x u pass card bed v : Int32} (hv : 0 ≤ v.toInt) {ls : Array Slot} (hl : lv_has ls 8 [(0, .ref (ad 0 0)), (4, .int pass), (5, .int card), (6, .int bed), (7, .int v), (3, .int u)]) : W p l e (rmx 10 210 5) s m args below meth c H locs 0 0 (MQ below (va_Qv (fun _ : Unit => True) (fun _ t => ∃ σ' G', PX SX Γ ad (xg σ' 8 G') t.heap ∧ HS σ' [] ∧ Gok (n + 2) G') A) args s 5 30 A) (F0 m 65 ls [.int x]) := by
  have fin : ∀ (σ' : Sig) (G' : Gd) (H : Heap) (locs : List Loc) (cells slots : Nat) (ls : Array Slot), PS SX Γ ad A s (xg σ' 8 G') H locs → HS σ' [] → Gok (n + 2) G' → cells ≤ 5 → slots ≤ 30 → W p l e (rmx 10 210 5) s m args below meth c H locs cells slots (MQ below (va_Qv (fun _ : Unit => True) (fun _ t => ∃ σ' G', PX SX Γ ad (xg σ' 8 G') t.heap ∧ HS σ' [] ∧ Gok (n + 2) G') A) args s 5 30 A) (F0 m 531 ls []) := by
    intro σ' G' H locs cells slots ls hP hs hG h1 h2
    refine W.widen h1 h2 ?_
    exact W.vret cx.1 cx.2.1 hr (fun t ht hW => ⟨⟨(), rfl, trivial, σ', G', by rw [ht]; exact hP.1, hs, hG⟩, hP.2.F ht⟩) hP.2.2.2 dL_act_531 hnl
  have c188 : W p l e (rmx 10 210 5) s m args below meth c H locs 0 0 (MQ below (va_Qv (fun _ : Unit => True) (fun _ t => ∃ σ' G', PX SX Γ ad (xg σ' 8 G') t.heap ∧ HS σ' [] ∧ Gok (n + 2) G') A) args s 5 30 A) (F0 m 188 ls []) := by
    refine lv_aload_n cx.1 cx.2.1 dL_act_188 rfl (lv_at hl 0 rfl) ?_
    refine lv_iconst (v := 1) cx.1 cx.2.1 dL_act_189 (by decide) ?_
    refine lv_iload_n cx.1 cx.2.1 dL_act_190 rfl (lv_at hl 5 rfl) ?_
    refine lv_bipush (v := 15) cx.1 cx.2.1 dL_act_191 (by decide) ?_
    refine lv_irem cx.1 cx.2.1 dL_act_193 (by decide) ?_
    refine lv_iadd cx.1 cx.2.1 dL_act_194 ?_
    refine lv_aload_n cx.1 cx.2.1 dL_act_195 rfl (lv_at hl 0 rfl) ?_
    refine r_callVi cx hP (As := []) (w11_day l Γ ad A (xg σ 8 G) _ v_day) mw13_200 ⟨Nat.le_of_ble_eq_true rfl, Nat.le_of_ble_eq_true rfl⟩ (dXr (by decide)) rfl rfl rfl (Nat.le_of_ble_eq_true rfl) hl.1 ⟨Nat.le_of_ble_eq_true rfl, Nat.le_of_ble_eq_true rfl⟩ dL_act_196 (fun H locs hP => ?_)
    refine lv_iload cx.1 cx.2.1 dL_act_199 (lv_at hl 4 rfl) ?_
    refine lv_iconst (v := 3) cx.1 cx.2.1 dL_act_201 (by decide) ?_
    refine lv_irem cx.1 cx.2.1 dL_act_202 (by decide) ?_
    refine lv_iadd cx.1 cx.2.1 dL_act_203 ?_
    refine lv_iconst (v := 1) cx.1 cx.2.1 dL_act_204 (by decide) ?_
    refine lv_iload cx.1 cx.2.1 dL_act_205 (lv_at hl 4 rfl) ?_
    refine lv_iconst (v := 4) cx.1 cx.2.1 dL_act_207 (by decide) ?_
    refine lv_idiv cx.1 cx.2.1 dL_act_208 (by decide) ?_
    refine lv_bipush (v := 14) cx.1 cx.2.1 dL_act_209 (by decide) ?_
    refine lv_irem cx.1 cx.2.1 dL_act_211 (by decide) ?_
    refine lv_iadd cx.1 cx.2.1 dL_act_212 ?_
    refine lv_iload cx.1 cx.2.1 dL_act_213 (lv_at hl 4 rfl) ?_
    refine lv_bipush (v := 64) cx.1 cx.2.1 dL_act_215 (by decide) ?_
    refine lv_idiv cx.1 cx.2.1 dL_act_217 (by decide) ?_
    refine lv_iconst (v := 2) cx.1 cx.2.1 dL_act_218 (by decide) ?_
    refine lv_irem cx.1 cx.2.1 dL_act_219 (by decide) ?_
    obtain ⟨k1, v1, σ1, G1, hX1, hs1, hG1, hk1⟩ := ac_sell (1 + (u - u / 15 * 15)) ((Td G) + (v - v / 3 * 3)) (1 + ((v / 4) - (v / 4) / 14 * 14)) ((v / 64) - (v / 64) / 2 * 2) hs hG
    refine r_callX cx hP hN (As := [.ref (ad 0 0), .int (1 + (u - u / 15 * 15)), .int ((Td G) + (v - v / 3 * 3)), .int (1 + ((v / 4) - (v / 4) / 14 * 14)), .int ((v / 64) - (v / 64) / 2 * 2)]) (wx_sell l hst Γ ad A (1 + (u - u / 15 * 15)) ((Td G) + (v - v / 3 * 3)) (1 + ((v / 4) - (v / 4) / 14 * 14)) ((v / 64) - (v / 64) / 2 * 2) _ _ hX1 (by simpa using hk1)) mz13_203 ⟨Nat.le_of_ble_eq_true rfl, Nat.le_of_ble_eq_true rfl⟩ rfl (Nat.le_of_ble_eq_true rfl) hl.1 ⟨Nat.le_of_ble_eq_true rfl, Nat.le_of_ble_eq_true rfl⟩ dL_act_220 (fun r1 H locs hP => ?_)
    refine lv_pop cx.1 cx.2.1 dL_act_223 rfl ?_
    refine lv_goto (tgt := 531) cx.1 cx.2.1 dL_act_224 (by decide) ?_
    exact fin _ _ _ _ _ _ _ hP hs1 (hG1.le (by omega)) (Nat.le_of_ble_eq_true rfl) (Nat.le_of_ble_eq_true rfl)
  have c227 : W p l e (rmx 10 210 5) s m args below meth c H locs 0 0 (MQ below (va_Qv (fun _ : Unit => True) (fun _ t => ∃ σ' G', PX SX Γ ad (xg σ' 8 G') t.heap ∧ HS σ' [] ∧ Gok (n + 2) G') A) args s 5 30 A) (F0 m 227 ls []) := by
    refine lv_aload_n cx.1 cx.2.1 dL_act_227 rfl (lv_at hl 0 rfl) ?_
    refine lv_iload cx.1 cx.2.1 dL_act_228 (lv_at hl 2 rfl) ?_
    refine lv_iload cx.1 cx.2.1 dL_act_230 (lv_at hl 3 rfl) ?_
    obtain ⟨k1, v1, σ1, G1, hX1, hs1, hG1, hk1⟩ := ac_visit card bed hs hG
    refine r_callX cx hP hN (As := [.ref (ad 0 0), .int card, .int bed]) (wx_visit l hst Γ ad A card bed _ _ hX1 (by simpa using hk1)) mz13_206 ⟨Nat.le_of_ble_eq_true rfl, Nat.le_of_ble_eq_true rfl⟩ rfl (Nat.le_of_ble_eq_true rfl) hl.1 ⟨Nat.le_of_ble_eq_true rfl, Nat.le_of_ble_eq_true rfl⟩ dL_act_232 (fun r1 H locs hP => ?_)
    refine lv_pop cx.1 cx.2.1 dL_act_235 rfl ?_
    refine lv_goto (tgt := 531) cx.1 cx.2.1 dL_act_236 (by decide) ?_
    exact fin _ _ _ _ _ _ _ hP hs1 (hG1.le (by omega)) (Nat.le_of_ble_eq_true rfl) (Nat.le_of_ble_eq_true rfl)
  have c239 : W p l e (rmx 10 210 5) s m args below meth c H locs 0 0 (MQ below (va_Qv (fun _ : Unit => True) (fun _ t => ∃ σ' G', PX SX Γ ad (xg σ' 8 G') t.heap ∧ HS σ' [] ∧ Gok (n + 2) G') A) args s 5 30 A) (F0 m 239 ls []) := by
    refine lv_aload_n cx.1 cx.2.1 dL_act_239 rfl (lv_at hl 0 rfl) ?_
    refine lv_iload cx.1 cx.2.1 dL_act_240 (lv_at hl 2 rfl) ?_
    refine lv_iload cx.1 cx.2.1 dL_act_242 (lv_at hl 3 rfl) ?_
    obtain ⟨k1, v1, σ1, G1, hX1, hs1, hG1, hk1⟩ := ac_visit card bed hs hG
    refine r_callX cx hP hN (As := [.ref (ad 0 0), .int card, .int bed]) (wx_visit l hst Γ ad A card bed _ _ hX1 (by simpa using hk1)) mz13_206 ⟨Nat.le_of_ble_eq_true rfl, Nat.le_of_ble_eq_true rfl⟩ rfl (Nat.le_of_ble_eq_true rfl) hl.1 ⟨Nat.le_of_ble_eq_true rfl, Nat.le_of_ble_eq_true rfl⟩ dL_act_244 (fun r1 H locs hP => ?_)
    refine lv_pop cx.1 cx.2.1 dL_act_247 rfl ?_
    refine lv_aload_n cx.1 cx.2.1 dL_act_248 rfl (lv_at hl 0 rfl) ?_
    refine lv_iload cx.1 cx.2.1 dL_act_249 (lv_at hl 2 rfl) ?_
    refine lv_iconst (v := 1) cx.1 cx.2.1 dL_act_251 (by decide) ?_
    refine lv_iload cx.1 cx.2.1 dL_act_252 (lv_at hl 4 rfl) ?_
    refine lv_bipush (v := 9) cx.1 cx.2.1 dL_act_254 (by decide) ?_
    refine lv_irem cx.1 cx.2.1 dL_act_256 (by decide) ?_
    refine lv_iadd cx.1 cx.2.1 dL_act_257 ?_
    obtain ⟨k2, v2, σ2, G2, hX2, hs2, hG2, hk2⟩ := ac_pluck card (1 + (v - v / 9 * 9)) hs1 hG1
    refine r_callX cx hP hN (As := [.ref (ad 0 0), .int card, .int (1 + (v - v / 9 * 9))]) (wx_pluck l hst Γ ad A card (1 + (v - v / 9 * 9)) _ _ hX2 (by simpa using hk2)) mz13_209 ⟨Nat.le_of_ble_eq_true rfl, Nat.le_of_ble_eq_true rfl⟩ rfl (Nat.le_of_ble_eq_true rfl) hl.1 ⟨Nat.le_of_ble_eq_true rfl, Nat.le_of_ble_eq_true rfl⟩ dL_act_258 (fun r2 H locs hP => ?_)
    refine lv_pop cx.1 cx.2.1 dL_act_261 rfl ?_
    refine lv_goto (tgt := 531) cx.1 cx.2.1 dL_act_262 (by decide) ?_
    exact fin _ _ _ _ _ _ _ hP hs2 hG2 (Nat.le_of_ble_eq_true rfl) (Nat.le_of_ble_eq_true rfl)
  have c265 : W p l e (rmx 10 210 5) s m args below meth c H locs 0 0 (MQ below (va_Qv (fun _ : Unit => True) (fun _ t => ∃ σ' G', PX SX Γ ad (xg σ' 8 G') t.heap ∧ HS σ' [] ∧ Gok (n + 2) G') A) args s 5 30 A) (F0 m 265 ls []) := by
    refine lv_aload_n cx.1 cx.2.1 dL_act_265 rfl (lv_at hl 0 rfl) ?_
    refine lv_iload cx.1 cx.2.1 dL_act_266 (lv_at hl 2 rfl) ?_
    refine lv_iconst (v := 1) cx.1 cx.2.1 dL_act_268 (by decide) ?_
    refine lv_iload cx.1 cx.2.1 dL_act_269 (lv_at hl 4 rfl) ?_
    refine lv_bipush (v := 9) cx.1 cx.2.1 dL_act_271 (by decide) ?_
    refine lv_irem cx.1 cx.2.1 dL_act_273 (by decide) ?_
    refine lv_iadd cx.1 cx.2.1 dL_act_274 ?_
    obtain ⟨k1, v1, σ1, G1, hX1, hs1, hG1, hk1⟩ := ac_pluck card (1 + (v - v / 9 * 9)) hs hG
    refine r_callX cx hP hN (As := [.ref (ad 0 0), .int card, .int (1 + (v - v / 9 * 9))]) (wx_pluck l hst Γ ad A card (1 + (v - v / 9 * 9)) _ _ hX1 (by simpa using hk1)) mz13_209 ⟨Nat.le_of_ble_eq_true rfl, Nat.le_of_ble_eq_true rfl⟩ rfl (Nat.le_of_ble_eq_true rfl) hl.1 ⟨Nat.le_of_ble_eq_true rfl, Nat.le_of_ble_eq_true rfl⟩ dL_act_275 (fun r1 H locs hP => ?_)
    refine lv_pop cx.1 cx.2.1 dL_act_278 rfl ?_
    refine lv_goto (tgt := 531) cx.1 cx.2.1 dL_act_279 (by decide) ?_
    exact fin _ _ _ _ _ _ _ hP hs1 (hG1.le (by omega)) (Nat.le_of_ble_eq_true rfl) (Nat.le_of_ble_eq_true rfl)
  have c282 : W p l e (rmx 10 210 5) s m args below meth c H locs 0 0 (MQ below (va_Qv (fun _ : Unit => True) (fun _ t => ∃ σ' G', PX SX Γ ad (xg σ' 8 G') t.heap ∧ HS σ' [] ∧ Gok (n + 2) G') A) args s 5 30 A) (F0 m 282 ls []) := by
    refine lv_aload_n cx.1 cx.2.1 dL_act_282 rfl (lv_at hl 0 rfl) ?_
    refine lv_iconst (v := 1) cx.1 cx.2.1 dL_act_283 (by decide) ?_
    refine lv_iload cx.1 cx.2.1 dL_act_284 (lv_at hl 4 rfl) ?_
    refine lv_iconst (v := 4) cx.1 cx.2.1 dL_act_286 (by decide) ?_
    refine lv_irem cx.1 cx.2.1 dL_act_287 (by decide) ?_
    refine lv_iadd cx.1 cx.2.1 dL_act_288 ?_
    obtain ⟨k1, v1, σ1, G1, hX1, hs1, hG1, hk1⟩ := ac_pass (1 + (v - v / 4 * 4)) (rem_lt (y := 4) hv (by decide) (by decide)) hs hG
    refine r_callX cx hP hN (As := [.ref (ad 0 0), .int (1 + (v - v / 4 * 4))]) (wx_pass l hst Γ ad A (1 + (v - v / 4 * 4)) _ _ hX1 (by simpa using hk1)) mz13_211 ⟨Nat.le_of_ble_eq_true rfl, Nat.le_of_ble_eq_true rfl⟩ rfl (Nat.le_of_ble_eq_true rfl) hl.1 ⟨Nat.le_of_ble_eq_true rfl, Nat.le_of_ble_eq_true rfl⟩ dL_act_289 (fun r1 H locs hP => ?_)
    refine lv_pop cx.1 cx.2.1 dL_act_292 rfl ?_
    refine lv_goto (tgt := 531) cx.1 cx.2.1 dL_act_293 (by decide) ?_
    exact fin _ _ _ _ _ _ _ hP hs1 (hG1.le (by omega)) (Nat.le_of_ble_eq_true rfl) (Nat.le_of_ble_eq_true rfl)
  have c296 : W p l e (rmx 10 210 5) s m args below meth c H locs 0 0 (MQ below (va_Qv (fun _ : Unit => True) (fun _ t => ∃ σ' G', PX SX Γ ad (xg σ' 8 G') t.heap ∧ HS σ' [] ∧ Gok (n + 2) G') A) args s 5 30 A) (F0 m 296 ls []) := by
    refine lv_aload_n cx.1 cx.2.1 dL_act_296 rfl (lv_at hl 0 rfl) ?_
    refine lv_iconst (v := 1) cx.1 cx.2.1 dL_act_297 (by decide) ?_
    refine lv_iload cx.1 cx.2.1 dL_act_298 (lv_at hl 4 rfl) ?_
    refine lv_bipush (v := 40) cx.1 cx.2.1 dL_act_300 (by decide) ?_
    refine lv_irem cx.1 cx.2.1 dL_act_302 (by decide) ?_
    refine lv_iadd cx.1 cx.2.1 dL_act_303 ?_
    obtain ⟨k1, v1, σ1, G1, hX1, hs1, hG1, hk1⟩ := ac_pass (1 + (v - v / 40 * 40)) (rem_lt (y := 40) hv (by decide) (by decide)) hs hG
    refine r_callX cx hP hN (As := [.ref (ad 0 0), .int (1 + (v - v / 40 * 40))]) (wx_pass l hst Γ ad A (1 + (v - v / 40 * 40)) _ _ hX1 (by simpa using hk1)) mz13_211 ⟨Nat.le_of_ble_eq_true rfl, Nat.le_of_ble_eq_true rfl⟩ rfl (Nat.le_of_ble_eq_true rfl) hl.1 ⟨Nat.le_of_ble_eq_true rfl, Nat.le_of_ble_eq_true rfl⟩ dL_act_304 (fun r1 H locs hP => ?_)
    refine lv_pop cx.1 cx.2.1 dL_act_307 rfl ?_
    refine lv_goto (tgt := 531) cx.1 cx.2.1 dL_act_308 (by decide) ?_
    exact fin _ _ _ _ _ _ _ hP hs1 (hG1.le (by omega)) (Nat.le_of_ble_eq_true rfl) (Nat.le_of_ble_eq_true rfl)
  have c311 : W p l e (rmx 10 210 5) s m args below meth c H locs 0 0 (MQ below (va_Qv (fun _ : Unit => True) (fun _ t => ∃ σ' G', PX SX Γ ad (xg σ' 8 G') t.heap ∧ HS σ' [] ∧ Gok (n + 2) G') A) args s 5 30 A) (F0 m 311 ls []) := by
    refine lv_aload_n cx.1 cx.2.1 dL_act_311 rfl (lv_at hl 0 rfl) ?_
    refine lv_iconst (v := 1) cx.1 cx.2.1 dL_act_312 (by decide) ?_
    refine lv_iload cx.1 cx.2.1 dL_act_313 (lv_at hl 4 rfl) ?_
    refine lv_sipush (v := 150) cx.1 cx.2.1 dL_act_315 (by decide) ?_
    refine lv_irem cx.1 cx.2.1 dL_act_318 (by decide) ?_
    refine lv_iadd cx.1 cx.2.1 dL_act_319 ?_
    obtain ⟨k1, v1, σ1, G1, hX1, hs1, hG1, hk1⟩ := ac_pass (1 + (v - v / 150 * 150)) (rem_lt (y := 150) hv (by decide) (by decide)) hs hG
    refine r_callX cx hP hN (As := [.ref (ad 0 0), .int (1 + (v - v / 150 * 150))]) (wx_pass l hst Γ ad A (1 + (v - v / 150 * 150)) _ _ hX1 (by simpa using hk1)) mz13_211 ⟨Nat.le_of_ble_eq_true rfl, Nat.le_of_ble_eq_true rfl⟩ rfl (Nat.le_of_ble_eq_true rfl) hl.1 ⟨Nat.le_of_ble_eq_true rfl, Nat.le_of_ble_eq_true rfl⟩ dL_act_320 (fun r1 H locs hP => ?_)
    refine lv_pop cx.1 cx.2.1 dL_act_323 rfl ?_
    refine lv_goto (tgt := 531) cx.1 cx.2.1 dL_act_324 (by decide) ?_
    exact fin _ _ _ _ _ _ _ hP hs1 (hG1.le (by omega)) (Nat.le_of_ble_eq_true rfl) (Nat.le_of_ble_eq_true rfl)
  have c327 : W p l e (rmx 10 210 5) s m args below meth c H locs 0 0 (MQ below (va_Qv (fun _ : Unit => True) (fun _ t => ∃ σ' G', PX SX Γ ad (xg σ' 8 G') t.heap ∧ HS σ' [] ∧ Gok (n + 2) G') A) args s 5 30 A) (F0 m 327 ls []) := by
    refine lv_aload_n cx.1 cx.2.1 dL_act_327 rfl (lv_at hl 0 rfl) ?_
    refine lv_iload cx.1 cx.2.1 dL_act_328 (lv_at hl 1 rfl) ?_
    obtain ⟨k1, v1, σ1, G1, hX1, hs1, hG1, hk1⟩ := ac_reportLost pass hs hG
    refine r_callX cx hP hN (As := [.ref (ad 0 0), .int pass]) (wx_reportLost l hst Γ ad A pass _ _ hX1 (by simpa using hk1)) mz13_214 ⟨Nat.le_of_ble_eq_true rfl, Nat.le_of_ble_eq_true rfl⟩ rfl (Nat.le_of_ble_eq_true rfl) hl.1 ⟨Nat.le_of_ble_eq_true rfl, Nat.le_of_ble_eq_true rfl⟩ dL_act_330 (fun r1 H locs hP => ?_)
    refine lv_pop cx.1 cx.2.1 dL_act_333 rfl ?_
    refine lv_goto (tgt := 531) cx.1 cx.2.1 dL_act_334 (by decide) ?_
    exact fin _ _ _ _ _ _ _ hP hs1 (hG1.le (by omega)) (Nat.le_of_ble_eq_true rfl) (Nat.le_of_ble_eq_true rfl)
  have c337 : W p l e (rmx 10 210 5) s m args below meth c H locs 0 0 (MQ below (va_Qv (fun _ : Unit => True) (fun _ t => ∃ σ' G', PX SX Γ ad (xg σ' 8 G') t.heap ∧ HS σ' [] ∧ Gok (n + 2) G') A) args s 5 30 A) (F0 m 337 ls []) := by
    refine lv_aload_n cx.1 cx.2.1 dL_act_337 rfl (lv_at hl 0 rfl) ?_
    refine lv_iload cx.1 cx.2.1 dL_act_338 (lv_at hl 1 rfl) ?_
    obtain ⟨k1, v1, σ1, G1, hX1, hs1, hG1, hk1⟩ := ac_replaceCard pass hs hG
    refine r_callX cx hP hN (As := [.ref (ad 0 0), .int pass]) (wx_replaceCard l hst Γ ad A pass _ _ hX1 (by simpa using hk1)) mz13_216 ⟨Nat.le_of_ble_eq_true rfl, Nat.le_of_ble_eq_true rfl⟩ rfl (Nat.le_of_ble_eq_true rfl) hl.1 ⟨Nat.le_of_ble_eq_true rfl, Nat.le_of_ble_eq_true rfl⟩ dL_act_340 (fun r1 H locs hP => ?_)
    refine lv_pop cx.1 cx.2.1 dL_act_343 rfl ?_
    refine lv_goto (tgt := 531) cx.1 cx.2.1 dL_act_344 (by decide) ?_
    exact fin _ _ _ _ _ _ _ hP hs1 (hG1.le (by omega)) (Nat.le_of_ble_eq_true rfl) (Nat.le_of_ble_eq_true rfl)
  have c347 : W p l e (rmx 10 210 5) s m args below meth c H locs 0 0 (MQ below (va_Qv (fun _ : Unit => True) (fun _ t => ∃ σ' G', PX SX Γ ad (xg σ' 8 G') t.heap ∧ HS σ' [] ∧ Gok (n + 2) G') A) args s 5 30 A) (F0 m 347 ls []) := by
    refine lv_aload_n cx.1 cx.2.1 dL_act_347 rfl (lv_at hl 0 rfl) ?_
    refine lv_iload cx.1 cx.2.1 dL_act_348 (lv_at hl 1 rfl) ?_
    obtain ⟨k1, v1, σ1, G1, hX1, hs1, hG1, hk1⟩ := ac_refundPass pass (by omega) hs hG
    refine r_callX cx hP hN (As := [.ref (ad 0 0), .int pass]) (wx_refundPass l hst Γ ad A pass _ _ hX1 (by simpa using hk1)) mz13_218 ⟨Nat.le_of_ble_eq_true rfl, Nat.le_of_ble_eq_true rfl⟩ rfl (Nat.le_of_ble_eq_true rfl) hl.1 ⟨Nat.le_of_ble_eq_true rfl, Nat.le_of_ble_eq_true rfl⟩ dL_act_350 (fun r1 H locs hP => ?_)
    refine lv_pop cx.1 cx.2.1 dL_act_353 rfl ?_
    refine lv_goto (tgt := 531) cx.1 cx.2.1 dL_act_354 (by decide) ?_
    exact fin _ _ _ _ _ _ _ hP hs1 (hG1.le (by omega)) (Nat.le_of_ble_eq_true rfl) (Nat.le_of_ble_eq_true rfl)
  have c357 : W p l e (rmx 10 210 5) s m args below meth c H locs 0 0 (MQ below (va_Qv (fun _ : Unit => True) (fun _ t => ∃ σ' G', PX SX Γ ad (xg σ' 8 G') t.heap ∧ HS σ' [] ∧ Gok (n + 2) G') A) args s 5 30 A) (F0 m 357 ls []) := by
    refine lv_aload_n cx.1 cx.2.1 dL_act_357 rfl (lv_at hl 0 rfl) ?_
    refine lv_iload cx.1 cx.2.1 dL_act_358 (lv_at hl 1 rfl) ?_
    refine lv_iconst (v := 1) cx.1 cx.2.1 dL_act_360 (by decide) ?_
    refine lv_iload cx.1 cx.2.1 dL_act_361 (lv_at hl 4 rfl) ?_
    refine lv_bipush (v := 6) cx.1 cx.2.1 dL_act_363 (by decide) ?_
    refine lv_irem cx.1 cx.2.1 dL_act_365 (by decide) ?_
    refine lv_iadd cx.1 cx.2.1 dL_act_366 ?_
    obtain ⟨k1, v1, σ1, G1, hX1, hs1, hG1, hk1⟩ := ac_extend pass (1 + (v - v / 6 * 6)) hs hG
    refine r_callX cx hP hN (As := [.ref (ad 0 0), .int pass, .int (1 + (v - v / 6 * 6))]) (wx_extend l hst Γ ad A pass (1 + (v - v / 6 * 6)) _ _ hX1 (by simpa using hk1)) mz13_220 ⟨Nat.le_of_ble_eq_true rfl, Nat.le_of_ble_eq_true rfl⟩ rfl (Nat.le_of_ble_eq_true rfl) hl.1 ⟨Nat.le_of_ble_eq_true rfl, Nat.le_of_ble_eq_true rfl⟩ dL_act_367 (fun r1 H locs hP => ?_)
    refine lv_pop cx.1 cx.2.1 dL_act_370 rfl ?_
    refine lv_goto (tgt := 531) cx.1 cx.2.1 dL_act_371 (by decide) ?_
    exact fin _ _ _ _ _ _ _ hP hs1 (hG1.le (by omega)) (Nat.le_of_ble_eq_true rfl) (Nat.le_of_ble_eq_true rfl)
  have c374 : W p l e (rmx 10 210 5) s m args below meth c H locs 0 0 (MQ below (va_Qv (fun _ : Unit => True) (fun _ t => ∃ σ' G', PX SX Γ ad (xg σ' 8 G') t.heap ∧ HS σ' [] ∧ Gok (n + 2) G') A) args s 5 30 A) (F0 m 374 ls []) := by
    refine lv_aload_n cx.1 cx.2.1 dL_act_374 rfl (lv_at hl 0 rfl) ?_
    refine lv_iload cx.1 cx.2.1 dL_act_375 (lv_at hl 1 rfl) ?_
    refine lv_iload cx.1 cx.2.1 dL_act_377 (lv_at hl 4 rfl) ?_
    refine lv_iconst (v := 5) cx.1 cx.2.1 dL_act_379 (by decide) ?_
    refine lv_irem cx.1 cx.2.1 dL_act_380 (by decide) ?_
    obtain ⟨k1, v1, σ1, G1, hX1, hs1, hG1, hk1⟩ := ac_addScent pass (v - v / 5 * 5) hs hG
    refine r_callX cx hP hN (As := [.ref (ad 0 0), .int pass, .int (v - v / 5 * 5)]) (wx_addScent l hst Γ ad A pass (v - v / 5 * 5) _ _ hX1 (by simpa using hk1)) mz13_222 ⟨Nat.le_of_ble_eq_true rfl, Nat.le_of_ble_eq_true rfl⟩ rfl (Nat.le_of_ble_eq_true rfl) hl.1 ⟨Nat.le_of_ble_eq_true rfl, Nat.le_of_ble_eq_true rfl⟩ dL_act_381 (fun r1 H locs hP => ?_)
    refine lv_pop cx.1 cx.2.1 dL_act_384 rfl ?_
    refine lv_goto (tgt := 531) cx.1 cx.2.1 dL_act_385 (by decide) ?_
    exact fin _ _ _ _ _ _ _ hP hs1 (hG1.le (by omega)) (Nat.le_of_ble_eq_true rfl) (Nat.le_of_ble_eq_true rfl)
  have c388 : W p l e (rmx 10 210 5) s m args below meth c H locs 0 0 (MQ below (va_Qv (fun _ : Unit => True) (fun _ t => ∃ σ' G', PX SX Γ ad (xg σ' 8 G') t.heap ∧ HS σ' [] ∧ Gok (n + 2) G') A) args s 5 30 A) (F0 m 388 ls []) := by
    refine lv_aload_n cx.1 cx.2.1 dL_act_388 rfl (lv_at hl 0 rfl) ?_
    refine lv_iload cx.1 cx.2.1 dL_act_389 (lv_at hl 1 rfl) ?_
    refine lv_iconst (v := 1) cx.1 cx.2.1 dL_act_391 (by decide) ?_
    refine lv_iload cx.1 cx.2.1 dL_act_392 (lv_at hl 4 rfl) ?_
    refine lv_bipush (v := 30) cx.1 cx.2.1 dL_act_394 (by decide) ?_
    refine lv_irem cx.1 cx.2.1 dL_act_396 (by decide) ?_
    refine lv_iadd cx.1 cx.2.1 dL_act_397 ?_
    obtain ⟨k1, v1, σ1, G1, hX1, hs1, hG1, hk1⟩ := ac_payFines pass (1 + (v - v / 30 * 30)) (by omega) hs hG
    refine r_callX cx hP hN (As := [.ref (ad 0 0), .int pass, .int (1 + (v - v / 30 * 30))]) (wx_payFines l hst Γ ad A pass (1 + (v - v / 30 * 30)) _ _ hX1 (by simpa using hk1)) mz13_224 ⟨Nat.le_of_ble_eq_true rfl, Nat.le_of_ble_eq_true rfl⟩ rfl (Nat.le_of_ble_eq_true rfl) hl.1 ⟨Nat.le_of_ble_eq_true rfl, Nat.le_of_ble_eq_true rfl⟩ dL_act_398 (fun r1 H locs hP => ?_)
    refine lv_pop cx.1 cx.2.1 dL_act_401 rfl ?_
    refine lv_goto (tgt := 531) cx.1 cx.2.1 dL_act_402 (by decide) ?_
    exact fin _ _ _ _ _ _ _ hP hs1 (hG1.le (by omega)) (Nat.le_of_ble_eq_true rfl) (Nat.le_of_ble_eq_true rfl)
  have c405 : W p l e (rmx 10 210 5) s m args below meth c H locs 0 0 (MQ below (va_Qv (fun _ : Unit => True) (fun _ t => ∃ σ' G', PX SX Γ ad (xg σ' 8 G') t.heap ∧ HS σ' [] ∧ Gok (n + 2) G') A) args s 5 30 A) (F0 m 405 ls []) := by
    refine lv_iload cx.1 cx.2.1 dL_act_405 (lv_at hl 4 rfl) ?_
    refine lv_iconst (v := 2) cx.1 cx.2.1 dL_act_407 (by decide) ?_
    refine lv_irem cx.1 cx.2.1 dL_act_408 (by decide) ?_
    refine lv_if_ne (tgt := 436) cx.1 cx.2.1 dL_act_409 (by decide) (fun _ => ?_) (fun _ => ?_)
    · refine lv_aload_n cx.1 cx.2.1 dL_act_436 rfl (lv_at hl 0 rfl) ?_
      refine lv_iconst (v := 1) cx.1 cx.2.1 dL_act_437 (by decide) ?_
      refine lv_iload cx.1 cx.2.1 dL_act_438 (lv_at hl 4 rfl) ?_
      refine lv_iconst (v := 2) cx.1 cx.2.1 dL_act_440 (by decide) ?_
      refine lv_idiv cx.1 cx.2.1 dL_act_441 (by decide) ?_
      refine lv_bipush (v := 20) cx.1 cx.2.1 dL_act_442 (by decide) ?_
      refine lv_irem cx.1 cx.2.1 dL_act_444 (by decide) ?_
      refine lv_iadd cx.1 cx.2.1 dL_act_445 ?_
      obtain ⟨k1, v1, σ1, G1, hX1, hs1, hG1, hk1⟩ := ac_setRate (1 + ((v / 2) - (v / 2) / 20 * 20)) hs hG
      refine r_callX cx hP hN (As := [.ref (ad 0 0), .int (1 + ((v / 2) - (v / 2) / 20 * 20))]) (wx_setRate l hst Γ ad A (1 + ((v / 2) - (v / 2) / 20 * 20)) _ _ hX1 (by simpa using hk1)) mz13_228 ⟨Nat.le_of_ble_eq_true rfl, Nat.le_of_ble_eq_true rfl⟩ rfl (Nat.le_of_ble_eq_true rfl) hl.1 ⟨Nat.le_of_ble_eq_true rfl, Nat.le_of_ble_eq_true rfl⟩ dL_act_446 (fun r1 H locs hP => ?_)
      refine lv_pop cx.1 cx.2.1 dL_act_449 rfl ?_
      refine lv_goto (tgt := 531) cx.1 cx.2.1 dL_act_450 (by decide) ?_
      exact fin _ _ _ _ _ _ _ hP hs1 (hG1.le (by omega)) (Nat.le_of_ble_eq_true rfl) (Nat.le_of_ble_eq_true rfl)
    · refine lv_aload_n cx.1 cx.2.1 dL_act_412 rfl (lv_at hl 0 rfl) ?_
      refine lv_iload cx.1 cx.2.1 dL_act_413 (lv_at hl 4 rfl) ?_
      refine lv_iconst (v := 2) cx.1 cx.2.1 dL_act_415 (by decide) ?_
      refine lv_idiv cx.1 cx.2.1 dL_act_416 (by decide) ?_
      refine lv_iconst (v := 4) cx.1 cx.2.1 dL_act_417 (by decide) ?_
      refine lv_irem cx.1 cx.2.1 dL_act_418 (by decide) ?_
      refine lv_iconst (v := 1) cx.1 cx.2.1 dL_act_419 (by decide) ?_
      refine lv_iload cx.1 cx.2.1 dL_act_420 (lv_at hl 4 rfl) ?_
      refine lv_bipush (v := 16) cx.1 cx.2.1 dL_act_422 (by decide) ?_
      refine lv_idiv cx.1 cx.2.1 dL_act_424 (by decide) ?_
      refine lv_bipush (v := 99) cx.1 cx.2.1 dL_act_425 (by decide) ?_
      refine lv_irem cx.1 cx.2.1 dL_act_427 (by decide) ?_
      refine lv_iadd cx.1 cx.2.1 dL_act_428 ?_
      obtain ⟨k1, v1, σ1, G1, hX1, hs1, hG1, hk1⟩ := ac_setPrice ((v / 2) - (v / 2) / 4 * 4) (1 + ((v / 16) - (v / 16) / 99 * 99)) hs hG
      refine r_callX cx hP hN (As := [.ref (ad 0 0), .int ((v / 2) - (v / 2) / 4 * 4), .int (1 + ((v / 16) - (v / 16) / 99 * 99))]) (wx_setPrice l hst Γ ad A ((v / 2) - (v / 2) / 4 * 4) (1 + ((v / 16) - (v / 16) / 99 * 99)) _ _ hX1 (by simpa using hk1)) mz13_226 ⟨Nat.le_of_ble_eq_true rfl, Nat.le_of_ble_eq_true rfl⟩ rfl (Nat.le_of_ble_eq_true rfl) hl.1 ⟨Nat.le_of_ble_eq_true rfl, Nat.le_of_ble_eq_true rfl⟩ dL_act_429 (fun r1 H locs hP => ?_)
      refine lv_pop cx.1 cx.2.1 dL_act_432 rfl ?_
      refine lv_goto (tgt := 531) cx.1 cx.2.1 dL_act_433 (by decide) ?_
      exact fin _ _ _ _ _ _ _ hP hs1 (hG1.le (by omega)) (Nat.le_of_ble_eq_true rfl) (Nat.le_of_ble_eq_true rfl)
  have c453 : W p l e (rmx 10 210 5) s m args below meth c H locs 0 0 (MQ below (va_Qv (fun _ : Unit => True) (fun _ t => ∃ σ' G', PX SX Γ ad (xg σ' 8 G') t.heap ∧ HS σ' [] ∧ Gok (n + 2) G') A) args s 5 30 A) (F0 m 453 ls []) := by
    refine lv_aload_n cx.1 cx.2.1 dL_act_453 rfl (lv_at hl 0 rfl) ?_
    refine lv_bipush (v := 40) cx.1 cx.2.1 dL_act_454 (by decide) ?_
    refine lv_iload cx.1 cx.2.1 dL_act_456 (lv_at hl 4 rfl) ?_
    refine lv_bipush (v := 20) cx.1 cx.2.1 dL_act_458 (by decide) ?_
    refine lv_irem cx.1 cx.2.1 dL_act_460 (by decide) ?_
    refine lv_iadd cx.1 cx.2.1 dL_act_461 ?_
    refine lv_bipush (v := 60) cx.1 cx.2.1 dL_act_462 (by decide) ?_
    refine lv_iload cx.1 cx.2.1 dL_act_464 (lv_at hl 4 rfl) ?_
    refine lv_bipush (v := 32) cx.1 cx.2.1 dL_act_466 (by decide) ?_
    refine lv_idiv cx.1 cx.2.1 dL_act_468 (by decide) ?_
    refine lv_bipush (v := 12) cx.1 cx.2.1 dL_act_469 (by decide) ?_
    refine lv_irem cx.1 cx.2.1 dL_act_471 (by decide) ?_
    refine lv_iadd cx.1 cx.2.1 dL_act_472 ?_
    obtain ⟨k1, v1, σ1, G1, hX1, hs1, hG1, hk1⟩ := ac_setPeacocks (40 + (v - v / 20 * 20)) (60 + ((v / 32) - (v / 32) / 12 * 12)) hs hG
    refine r_callX cx hP hN (As := [.ref (ad 0 0), .int (40 + (v - v / 20 * 20)), .int (60 + ((v / 32) - (v / 32) / 12 * 12))]) (wx_setPeacocks l hst Γ ad A (40 + (v - v / 20 * 20)) (60 + ((v / 32) - (v / 32) / 12 * 12)) _ _ hX1 (by simpa using hk1)) mz13_230 ⟨Nat.le_of_ble_eq_true rfl, Nat.le_of_ble_eq_true rfl⟩ rfl (Nat.le_of_ble_eq_true rfl) hl.1 ⟨Nat.le_of_ble_eq_true rfl, Nat.le_of_ble_eq_true rfl⟩ dL_act_473 (fun r1 H locs hP => ?_)
    refine lv_pop cx.1 cx.2.1 dL_act_476 rfl ?_
    refine lv_goto (tgt := 531) cx.1 cx.2.1 dL_act_477 (by decide) ?_
    exact fin _ _ _ _ _ _ _ hP hs1 (hG1.le (by omega)) (Nat.le_of_ble_eq_true rfl) (Nat.le_of_ble_eq_true rfl)
  have c480 : W p l e (rmx 10 210 5) s m args below meth c H locs 0 0 (MQ below (va_Qv (fun _ : Unit => True) (fun _ t => ∃ σ' G', PX SX Γ ad (xg σ' 8 G') t.heap ∧ HS σ' [] ∧ Gok (n + 2) G') A) args s 5 30 A) (F0 m 480 ls []) := by
    refine lv_aload_n cx.1 cx.2.1 dL_act_480 rfl (lv_at hl 0 rfl) ?_
    refine lv_iload cx.1 cx.2.1 dL_act_481 (lv_at hl 4 rfl) ?_
    refine lv_bipush (v := 9) cx.1 cx.2.1 dL_act_483 (by decide) ?_
    refine lv_irem cx.1 cx.2.1 dL_act_485 (by decide) ?_
    obtain ⟨k1, v1, σ1, G1, hX1, hs1, hG1, hk1⟩ := ac_setPause (v - v / 9 * 9) hs hG
    refine r_callX cx hP hN (As := [.ref (ad 0 0), .int (v - v / 9 * 9)]) (wx_setPause l hst Γ ad A (v - v / 9 * 9) _ _ hX1 (by simpa using hk1)) mz13_232 ⟨Nat.le_of_ble_eq_true rfl, Nat.le_of_ble_eq_true rfl⟩ rfl (Nat.le_of_ble_eq_true rfl) hl.1 ⟨Nat.le_of_ble_eq_true rfl, Nat.le_of_ble_eq_true rfl⟩ dL_act_486 (fun r1 H locs hP => ?_)
    refine lv_pop cx.1 cx.2.1 dL_act_489 rfl ?_
    refine lv_goto (tgt := 531) cx.1 cx.2.1 dL_act_490 (by decide) ?_
    exact fin _ _ _ _ _ _ _ hP hs1 (hG1.le (by omega)) (Nat.le_of_ble_eq_true rfl) (Nat.le_of_ble_eq_true rfl)
  have c493 : W p l e (rmx 10 210 5) s m args below meth c H locs 0 0 (MQ below (va_Qv (fun _ : Unit => True) (fun _ t => ∃ σ' G', PX SX Γ ad (xg σ' 8 G') t.heap ∧ HS σ' [] ∧ Gok (n + 2) G') A) args s 5 30 A) (F0 m 493 ls []) := by
    refine lv_aload_n cx.1 cx.2.1 dL_act_493 rfl (lv_at hl 0 rfl) ?_
    refine lv_iload cx.1 cx.2.1 dL_act_494 (lv_at hl 4 rfl) ?_
    refine lv_iconst (v := 4) cx.1 cx.2.1 dL_act_496 (by decide) ?_
    refine lv_irem cx.1 cx.2.1 dL_act_497 (by decide) ?_
    refine lv_iconst (v := 1) cx.1 cx.2.1 dL_act_498 (by decide) ?_
    refine lv_iload cx.1 cx.2.1 dL_act_499 (lv_at hl 4 rfl) ?_
    refine lv_iconst (v := 4) cx.1 cx.2.1 dL_act_501 (by decide) ?_
    refine lv_idiv cx.1 cx.2.1 dL_act_502 (by decide) ?_
    refine lv_iconst (v := 3) cx.1 cx.2.1 dL_act_503 (by decide) ?_
    refine lv_irem cx.1 cx.2.1 dL_act_504 (by decide) ?_
    refine lv_iadd cx.1 cx.2.1 dL_act_505 ?_
    refine lv_aload_n cx.1 cx.2.1 dL_act_506 rfl (lv_at hl 0 rfl) ?_
    refine r_callVi cx hP (As := []) (w11_day l Γ ad A (xg σ 8 G) _ v_day) mw13_200 ⟨Nat.le_of_ble_eq_true rfl, Nat.le_of_ble_eq_true rfl⟩ (dXr (by decide)) rfl rfl rfl (Nat.le_of_ble_eq_true rfl) hl.1 ⟨Nat.le_of_ble_eq_true rfl, Nat.le_of_ble_eq_true rfl⟩ dL_act_507 (fun H locs hP => ?_)
    refine lv_bipush (v := 99) cx.1 cx.2.1 dL_act_510 (by decide) ?_
    refine lv_aload_n cx.1 cx.2.1 dL_act_512 rfl (lv_at hl 0 rfl) ?_
    refine r_callVi cx hP (As := []) (w11_day l Γ ad A (xg σ 8 G) _ v_day) mw13_200 ⟨Nat.le_of_ble_eq_true rfl, Nat.le_of_ble_eq_true rfl⟩ (dXr (by decide)) rfl rfl rfl (Nat.le_of_ble_eq_true rfl) hl.1 ⟨Nat.le_of_ble_eq_true rfl, Nat.le_of_ble_eq_true rfl⟩ dL_act_513 (fun H locs hP => ?_)
    refine lv_iload cx.1 cx.2.1 dL_act_516 (lv_at hl 4 rfl) ?_
    refine lv_bipush (v := 16) cx.1 cx.2.1 dL_act_518 (by decide) ?_
    refine lv_idiv cx.1 cx.2.1 dL_act_520 (by decide) ?_
    refine lv_iconst (v := 5) cx.1 cx.2.1 dL_act_521 (by decide) ?_
    refine lv_irem cx.1 cx.2.1 dL_act_522 (by decide) ?_
    refine lv_iadd cx.1 cx.2.1 dL_act_523 ?_
    refine va_mmin cx.1 cx.2.1 (by rw [cx.2.2.1, hl.1]) cx.hown (cx.hts _ mw13_234.1) (cx.hts _ mw13_234.2.1) (cx.hts _ mw13_234.2.2.1) (cx.hts _ mw13_234.2.2.2) (Nat.le_of_ble_eq_true rfl) (Nat.le_of_ble_eq_true rfl) (Nat.le_of_ble_eq_true rfl) (Nat.le_of_ble_eq_true rfl) dL_act_524 ?_
    obtain ⟨k1, v1, σ1, G1, hX1, hs1, hG1, hk1⟩ := ac_layBed (v - v / 4 * 4) (1 + ((v / 4) - (v / 4) / 3 * 3)) (Td G) (if ((Td G) + ((v / 16) - (v / 16) / 5 * 5)) < 99 then ((Td G) + ((v / 16) - (v / 16) / 5 * 5)) else 99) hs hG
    refine r_callX cx hP hN (As := [.ref (ad 0 0), .int (v - v / 4 * 4), .int (1 + ((v / 4) - (v / 4) / 3 * 3)), .int (Td G), .int (if ((Td G) + ((v / 16) - (v / 16) / 5 * 5)) < 99 then ((Td G) + ((v / 16) - (v / 16) / 5 * 5)) else 99)]) (wx_layBed l hst Γ ad A (v - v / 4 * 4) (1 + ((v / 4) - (v / 4) / 3 * 3)) (Td G) (if ((Td G) + ((v / 16) - (v / 16) / 5 * 5)) < 99 then ((Td G) + ((v / 16) - (v / 16) / 5 * 5)) else 99) _ _ hX1 (by simpa using hk1)) mz13_237 ⟨Nat.le_of_ble_eq_true rfl, Nat.le_of_ble_eq_true rfl⟩ rfl (Nat.le_of_ble_eq_true rfl) hl.1 ⟨Nat.le_of_ble_eq_true rfl, Nat.le_of_ble_eq_true rfl⟩ dL_act_527 (fun r1 H locs hP => ?_)
    refine lv_pop cx.1 cx.2.1 dL_act_530 rfl ?_
    exact fin _ _ _ _ _ _ _ hP hs1 (hG1.le (by omega)) (Nat.le_of_ble_eq_true rfl) (Nat.le_of_ble_eq_true rfl)
  by_cases h1 : x.toInt < 0
  · exact lv_tableOut (tgt := 493) cx.1 cx.2.1 dL_act_65 (Or.inl h1) (by decide) c493
  by_cases h2 : 26 < x.toInt
  · exact lv_tableOut (tgt := 493) cx.1 cx.2.1 dL_act_65 (Or.inr h2) (by decide) c493
  have hx : x.toInt = 0 ∨ x.toInt = 1 ∨ x.toInt = 2 ∨ x.toInt = 3 ∨ x.toInt = 4 ∨ x.toInt = 5 ∨ x.toInt = 6 ∨ x.toInt = 7 ∨ x.toInt = 8 ∨ x.toInt = 9 ∨ x.toInt = 10 ∨ x.toInt = 11 ∨ x.toInt = 12 ∨ x.toInt = 13 ∨ x.toInt = 14 ∨ x.toInt = 15 ∨ x.toInt = 16 ∨ x.toInt = 17 ∨ x.toInt = 18 ∨ x.toInt = 19 ∨ x.toInt = 20 ∨ x.toInt = 21 ∨ x.toInt = 22 ∨ x.toInt = 23 ∨ x.toInt = 24 ∨ x.toInt = 25 ∨ x.toInt = 26 := by omega
  rcases hx with h | h | h | h | h | h | h | h | h | h | h | h | h | h | h | h | h | h | h | h | h | h | h | h | h | h | h
  · exact lv_tableIn (tgt := 188) (off := 123) cx.1 cx.2.1 dL_act_65 h1 h2 (by rw [h]; rfl) (by decide) c188
  · exact lv_tableIn (tgt := 188) (off := 123) cx.1 cx.2.1 dL_act_65 h1 h2 (by rw [h]; rfl) (by decide) c188
  · exact lv_tableIn (tgt := 188) (off := 123) cx.1 cx.2.1 dL_act_65 h1 h2 (by rw [h]; rfl) (by decide) c188
  · exact lv_tableIn (tgt := 188) (off := 123) cx.1 cx.2.1 dL_act_65 h1 h2 (by rw [h]; rfl) (by decide) c188
  · exact lv_tableIn (tgt := 227) (off := 162) cx.1 cx.2.1 dL_act_65 h1 h2 (by rw [h]; rfl) (by decide) c227
  · exact lv_tableIn (tgt := 227) (off := 162) cx.1 cx.2.1 dL_act_65 h1 h2 (by rw [h]; rfl) (by decide) c227
  · exact lv_tableIn (tgt := 227) (off := 162) cx.1 cx.2.1 dL_act_65 h1 h2 (by rw [h]; rfl) (by decide) c227
  · exact lv_tableIn (tgt := 227) (off := 162) cx.1 cx.2.1 dL_act_65 h1 h2 (by rw [h]; rfl) (by decide) c227
  · exact lv_tableIn (tgt := 227) (off := 162) cx.1 cx.2.1 dL_act_65 h1 h2 (by rw [h]; rfl) (by decide) c227
  · exact lv_tableIn (tgt := 239) (off := 174) cx.1 cx.2.1 dL_act_65 h1 h2 (by rw [h]; rfl) (by decide) c239
  · exact lv_tableIn (tgt := 239) (off := 174) cx.1 cx.2.1 dL_act_65 h1 h2 (by rw [h]; rfl) (by decide) c239
  · exact lv_tableIn (tgt := 239) (off := 174) cx.1 cx.2.1 dL_act_65 h1 h2 (by rw [h]; rfl) (by decide) c239
  · exact lv_tableIn (tgt := 265) (off := 200) cx.1 cx.2.1 dL_act_65 h1 h2 (by rw [h]; rfl) (by decide) c265
  · exact lv_tableIn (tgt := 282) (off := 217) cx.1 cx.2.1 dL_act_65 h1 h2 (by rw [h]; rfl) (by decide) c282
  · exact lv_tableIn (tgt := 282) (off := 217) cx.1 cx.2.1 dL_act_65 h1 h2 (by rw [h]; rfl) (by decide) c282
  · exact lv_tableIn (tgt := 296) (off := 231) cx.1 cx.2.1 dL_act_65 h1 h2 (by rw [h]; rfl) (by decide) c296
  · exact lv_tableIn (tgt := 311) (off := 246) cx.1 cx.2.1 dL_act_65 h1 h2 (by rw [h]; rfl) (by decide) c311
  · exact lv_tableIn (tgt := 327) (off := 262) cx.1 cx.2.1 dL_act_65 h1 h2 (by rw [h]; rfl) (by decide) c327
  · exact lv_tableIn (tgt := 337) (off := 272) cx.1 cx.2.1 dL_act_65 h1 h2 (by rw [h]; rfl) (by decide) c337
  · exact lv_tableIn (tgt := 347) (off := 282) cx.1 cx.2.1 dL_act_65 h1 h2 (by rw [h]; rfl) (by decide) c347
  · exact lv_tableIn (tgt := 357) (off := 292) cx.1 cx.2.1 dL_act_65 h1 h2 (by rw [h]; rfl) (by decide) c357
  · exact lv_tableIn (tgt := 374) (off := 309) cx.1 cx.2.1 dL_act_65 h1 h2 (by rw [h]; rfl) (by decide) c374
  · exact lv_tableIn (tgt := 388) (off := 323) cx.1 cx.2.1 dL_act_65 h1 h2 (by rw [h]; rfl) (by decide) c388
  · exact lv_tableIn (tgt := 388) (off := 323) cx.1 cx.2.1 dL_act_65 h1 h2 (by rw [h]; rfl) (by decide) c388
  · exact lv_tableIn (tgt := 405) (off := 340) cx.1 cx.2.1 dL_act_65 h1 h2 (by rw [h]; rfl) (by decide) c405
  · exact lv_tableIn (tgt := 453) (off := 388) cx.1 cx.2.1 dL_act_65 h1 h2 (by rw [h]; rfl) (by decide) c453
  · exact lv_tableIn (tgt := 480) (off := 415) cx.1 cx.2.1 dL_act_65 h1 h2 (by rw [h]; rfl) (by decide) c480
set_option maxHeartbeats 8000000 in
set_option maxRecDepth 100000 in
theorem w_act (l : Launch) (hst : l.stackTraces = false) (Γ : Wc) (ad : Nat → Nat → Nat) (A : Nat → Prop) (b L : Nat) (xs : Nat → Int32) (j n : Nat) (hj : j < 900) (hL : L ≤ 260) (hn : n ≤ 998) (σ : Sig) (G : Gd) (hs : HS σ []) (hG : Gok n G) : Met l yL_act (Wsd yL_act cL_act 8 none) (rmx 10 210 5) (va_Pc [.ref (ad 0 0), .ref b, .int (Int32.ofNat j)] (PAct Γ ad A b L xs (xg σ 8 G))) (va_Qv (fun _ : Unit => True) (fun _ t => ∃ σ' G', PX SX Γ ad (xg σ' 8 G') t.heap ∧ HS σ' [] ∧ Gok (n + 2) G') A) 5 30 A := by
  refine Met.ofW (cc := cL_act) (maxL := 8) (ret := none) (by decide) rfl ?_
  intro p e s m args below meth c s₁ B hml hv
  obtain ⟨rfl, ⟨hPX, hK, hA, hZ, hV⟩, hN, hX, hb9, hbA⟩ := hv
  have hr := B.returns
  have hnl := B.notSynchronized
  have htg : ∀ w ∈ gw, w.before _ s = true := fun w hw => atoms_spec (ws := Wsd yL_act cL_act 8 none) B.pre w (List.mem_cons_of_mem _ hw)
  have cx : CX SX Γ ad A RL cL_act 8 p s m _ c := ⟨B.exec, B.bytes, hml, findClass_of_methodNamed B.named, htg, hK, hA, hZ, hV⟩
  have hP : PS SX Γ ad A s (xg σ 8 G) s.heap [] := ⟨hPX, va_S.rf⟩
  have hl := lv_entry ([.ref (ad 0 0), .ref b, .int (Int32.ofNat j)]) (n := 8) (Nat.le_of_ble_eq_true rfl)
  rw [lg_entry_eq]
  generalize (lg_sl ([.ref (ad 0 0), .ref b, .int (Int32.ofNat j)]) ++ List.replicate (8 - (lg_sl ([.ref (ad 0 0), .ref b, .int (Int32.ofNat j)])).length) Slot.unset).toArray = ls at hl ⊢
  have hl : lv_has ls 8 [(0, .ref (ad 0 0)), (1, .ref b), (2, .int (Int32.ofNat j))] := hl
  have h0 := hG.1.1
  have hj3 := hG.2.1.1
  have z0 : (0 : Int32).toInt = 0 := rfl
  refine lv_aload_n cx.1 cx.2.1 dL_act_0 rfl (lv_at hl 1 rfl) ?_
  refine lv_iload_n cx.1 cx.2.1 dL_act_1 rfl (lv_at hl 2 rfl) ?_
  refine lv_iconst (v := 1) cx.1 cx.2.1 dL_act_2 (by decide) ?_
  refine lv_iadd cx.1 cx.2.1 dL_act_3 ?_
  rw [oN1]
  refine r_callA (fixOf cx) hX hb9 hbA hP.2 (As := [.ref b, .int (Int32.ofNat (j + 1))]) (rest := []) (a_cell l b L xs (j + 1) (by omega) hL) mwL_7 ⟨Nat.le_of_ble_eq_true rfl, Nat.le_of_ble_eq_true rfl⟩ rfl (Nat.le_of_ble_eq_true rfl) hl.1 ⟨Nat.le_of_ble_eq_true rfl, Nat.le_of_ble_eq_true rfl⟩ dL_act_4 (fun H locs hz1 hk1 hS => ?_)
  have hP : PS SX Γ ad A s (xg σ 8 G) H locs := ⟨fun g k hd => (hP.1 g k hd).kept (hk1 _ (hP.1 g k hd).lt), hS⟩
  refine lv_ldc (v := 2147483647) cx.1 cx.2.1 cx.hown (cx.hts _ kc13_166) dL_act_7 ?_
  refine lv_iand cx.1 cx.2.1 dL_act_9 ?_
  have hu := and31 (cellv L xs (j + 1))
  generalize cellv L xs (j + 1) &&& 2147483647 = u at hu ⊢
  refine lv_istore_n (lv' := [(3, .int u), (0, .ref (ad 0 0)), (1, .ref b), (2, .int (Int32.ofNat j))]) cx.1 cx.2.1 dL_act_10 rfl hl (by decide) rfl (fun ls hl => ?_)
  refine lv_iload_n cx.1 cx.2.1 dL_act_11 rfl (lv_at hl 0 rfl) ?_
  refine lv_iconst (v := 1) cx.1 cx.2.1 dL_act_12 (by decide) ?_
  refine lv_aload_n cx.1 cx.2.1 dL_act_13 rfl (lv_at hl 1 rfl) ?_
  refine r_callVi cx hP (As := []) (w11_passCount l Γ ad A (xg σ 8 G) _ v_passCount) mw13_188 ⟨Nat.le_of_ble_eq_true rfl, Nat.le_of_ble_eq_true rfl⟩ (dXr (by decide)) rfl rfl rfl (Nat.le_of_ble_eq_true rfl) hl.1 ⟨Nat.le_of_ble_eq_true rfl, Nat.le_of_ble_eq_true rfl⟩ dL_act_14 (fun H locs hP => ?_)
  refine va_mmax cx.1 cx.2.1 (by rw [cx.2.2.1, hl.1]) cx.hown (cx.hts _ mw13_191.1) (cx.hts _ mw13_191.2.1) (cx.hts _ mw13_191.2.2.1) (cx.hts _ mw13_191.2.2.2) (Nat.le_of_ble_eq_true rfl) (Nat.le_of_ble_eq_true rfl) (Nat.le_of_ble_eq_true rfl) (Nat.le_of_ble_eq_true rfl) dL_act_17 ?_
  refine lv_irem cx.1 cx.2.1 dL_act_20 (max_n0 (by omega)) ?_
  generalize u - u / (if (1 : Int32) < G 4 0 then G 4 0 else 1) * (if (1 : Int32) < G 4 0 then G 4 0 else 1) = pass
  refine lv_istore (lv' := [(4, .int pass), (3, .int u), (0, .ref (ad 0 0)), (1, .ref b), (2, .int (Int32.ofNat j))]) cx.1 cx.2.1 dL_act_21 hl (by decide) rfl (fun ls hl => ?_)
  refine lv_iload_n cx.1 cx.2.1 dL_act_23 rfl (lv_at hl 1 rfl) ?_
  refine lv_bipush (v := 32) cx.1 cx.2.1 dL_act_24 (by decide) ?_
  refine lv_idiv cx.1 cx.2.1 dL_act_26 (by decide) ?_
  refine lv_iconst (v := 1) cx.1 cx.2.1 dL_act_27 (by decide) ?_
  refine lv_aload_n cx.1 cx.2.1 dL_act_28 rfl (lv_at hl 2 rfl) ?_
  refine r_callVi cx hP (As := []) (w11_cardCount l Γ ad A (xg σ 8 G) _ v_cardCount) mw13_194 ⟨Nat.le_of_ble_eq_true rfl, Nat.le_of_ble_eq_true rfl⟩ (dXr (by decide)) rfl rfl rfl (Nat.le_of_ble_eq_true rfl) hl.1 ⟨Nat.le_of_ble_eq_true rfl, Nat.le_of_ble_eq_true rfl⟩ dL_act_29 (fun H locs hP => ?_)
  refine va_mmax cx.1 cx.2.1 (by rw [cx.2.2.1, hl.1]) cx.hown (cx.hts _ mw13_191.1) (cx.hts _ mw13_191.2.1) (cx.hts _ mw13_191.2.2.1) (cx.hts _ mw13_191.2.2.2) (Nat.le_of_ble_eq_true rfl) (Nat.le_of_ble_eq_true rfl) (Nat.le_of_ble_eq_true rfl) (Nat.le_of_ble_eq_true rfl) dL_act_32 ?_
  refine lv_irem cx.1 cx.2.1 dL_act_35 (max_n0 (by omega)) ?_
  generalize u / 32 - u / 32 / (if (1 : Int32) < G 5 0 then G 5 0 else 1) * (if (1 : Int32) < G 5 0 then G 5 0 else 1) = card
  refine lv_istore (lv' := [(5, .int card), (4, .int pass), (3, .int u), (0, .ref (ad 0 0)), (1, .ref b), (2, .int (Int32.ofNat j))]) cx.1 cx.2.1 dL_act_36 hl (by decide) rfl (fun ls hl => ?_)
  refine lv_iload_n cx.1 cx.2.1 dL_act_38 rfl (lv_at hl 2 rfl) ?_
  refine lv_sipush (v := 2048) cx.1 cx.2.1 dL_act_39 (by decide) ?_
  refine lv_idiv cx.1 cx.2.1 dL_act_42 (by decide) ?_
  refine lv_aload_n cx.1 cx.2.1 dL_act_43 rfl (lv_at hl 3 rfl) ?_
  refine r_callVi cx hP (As := []) (w11_bedCount l Γ ad A (xg σ 8 G) _ v_bedCount) mw13_197 ⟨Nat.le_of_ble_eq_true rfl, Nat.le_of_ble_eq_true rfl⟩ (dXr (by decide)) rfl rfl rfl (Nat.le_of_ble_eq_true rfl) hl.1 ⟨Nat.le_of_ble_eq_true rfl, Nat.le_of_ble_eq_true rfl⟩ dL_act_44 (fun H locs hP => ?_)
  refine lv_irem cx.1 cx.2.1 dL_act_47 (fun z => by rw [z, z0] at hj3; omega) ?_
  generalize u / 2048 - u / 2048 / G 3 0 * G 3 0 = bed
  refine lv_istore (lv' := [(6, .int bed), (5, .int card), (4, .int pass), (3, .int u), (0, .ref (ad 0 0)), (1, .ref b), (2, .int (Int32.ofNat j))]) cx.1 cx.2.1 dL_act_48 hl (by decide) rfl (fun ls hl => ?_)
  refine lv_iload_n cx.1 cx.2.1 dL_act_50 rfl (lv_at hl 3 rfl) ?_
  refine lv_sipush (v := 16384) cx.1 cx.2.1 dL_act_51 (by decide) ?_
  refine lv_idiv cx.1 cx.2.1 dL_act_54 (by decide) ?_
  have hv : 0 ≤ (u / 16384).toInt := by
    rw [tv_div rfl (show (16384 : Int32).toInt = 16384 from rfl) (by omega)]
    exact Int.ediv_nonneg hu (by decide)
  generalize u / 16384 = v at hv ⊢
  refine lv_istore (lv' := [(7, .int v), (6, .int bed), (5, .int card), (4, .int pass), (3, .int u), (0, .ref (ad 0 0)), (1, .ref b), (2, .int (Int32.ofNat j))]) cx.1 cx.2.1 dL_act_55 hl (by decide) rfl (fun ls hl => ?_)
  refine lv_aload_n cx.1 cx.2.1 dL_act_57 rfl (lv_at hl 6 rfl) ?_
  refine lv_iload_n cx.1 cx.2.1 dL_act_58 rfl (lv_at hl 7 rfl) ?_
  refine lv_iconst (v := 0) cx.1 cx.2.1 dL_act_59 (by decide) ?_
  refine lv_bipush (v := 28) cx.1 cx.2.1 dL_act_60 (by decide) ?_
  refine r_callA (fixOf cx) hX hb9 hbA hP.2 (As := [.ref b, .int (Int32.ofNat j), .int 0, .int 28]) (rest := []) (a_of l b L xs j 0 28 (by omega) hL (by decide)) mw13_148 ⟨Nat.le_of_ble_eq_true rfl, Nat.le_of_ble_eq_true rfl⟩ rfl (Nat.le_of_ble_eq_true rfl) hl.1 ⟨Nat.le_of_ble_eq_true rfl, Nat.le_of_ble_eq_true rfl⟩ dL_act_62 (fun H locs hz2 hk2 hS => ?_)
  have hP : PS SX Γ ad A s (xg σ 8 G) H locs := ⟨fun g k hd => (hP.1 g k hd).kept (hk2 _ (hP.1 g k hd).lt), hS⟩
  exact act_57 hst cx hr hnl hN hn hs hG hP hv (lv_sub hl [5, 3, 2, 1, 0, 4] rfl)
