/-! printed: began: the input; began itself -/
/-- the letter at a place, blanks behind the text -/
def chr9 (tx : List Nat) (p i : Nat) : Nat := if p + i < tx.length then tx.getD (p + i) 0 else 32
/-- the five words, i letters in -/
def wf9 (c : Nat → Nat) : Nat → Nat → Int32
  | 0 => fun _ => 0
  | i + 1 => upd (wf9 c i) (i / 4) (wf9 c i (i / 4) ||| (nI (c i) <<< (nI (24 - 8 * (i % 4)) &&& 31)))
theorem e_w9 : ∀ i, i < 20 → nI i / 4 = nI (i / 4) ∧ 24 - 8 * (nI i - nI i / 4 * 4) = nI (24 - 8 * (i % 4)) := by decide +kernel
set_option maxHeartbeats 8000000 in
set_option maxRecDepth 100000 in
theorem beg_l4 {p : Program} {l : Launch} {e : Env} {s : State} {m : MethodId} {args : Array Value} {below : List Frame} {meth : Method} {c : Code} {Γ : Wc} {ad : Nat → Nat → Nat} {σ : Sig} {b L : Nat} {xs : Nat → Int32} {bb : Nat} {Q : State → Prop} (cg : CGb Γ ad b L xs cL_began 8 p s m args c) {S : Nat} {tx : List Nat} {v cm wd at9 cells slots : Nat} {ml : Int32} {a : Nat → Int32} (hn : tx.length ≤ 63) (hat : at9 ≤ 63) (hm : tx.length ≤ cm ∧ cm ≤ 130) (hLt : sb_Lat (fun j => tx.getD j 0) tx.length a) (hc9 : cells ≤ 60) (hs9 : slots ≤ 12000) (K : ∀ (H : Heap) (locs : List Loc) (ls : Array Slot), SGb Γ ad s σ (wC Γ.2.1 bb v cm ml (nI tx.length) a [(wd, .inl (Γ.2.1 0, 5, .inl (wf9 (chr9 tx at9) 20)))]) H locs → lv_has ls 8 [(6, .int (nI 20)), (5, .ref wd), (4, .int (nI at9)), (3, .ref bb), (2, .int (nI S)), (0, .ref (ad 0 0)), (1, .ref b)] → W p l e rmb s m args below meth c H locs cells slots Q (F0 m 268 ls [])) : ∀ (k i : Nat), i + k = 20 → ∀ (H : Heap) (locs : List Loc) (ls : Array Slot), SGb Γ ad s σ (wC Γ.2.1 bb v cm ml (nI tx.length) a [(wd, .inl (Γ.2.1 0, 5, .inl (wf9 (chr9 tx at9) i)))]) H locs → lv_has ls 8 [(6, .int (nI i)), (5, .ref wd), (4, .int (nI at9)), (3, .ref bb), (2, .int (nI S)), (0, .ref (ad 0 0)), (1, .ref b)] → W p l e rmb s m args below meth c H locs cells slots Q (F0 m 204 ls []) := by
  intro k
  have hx := cg.1.1
  have hb := cg.1.2.1
  induction k with
  | zero =>
    intro i hi H locs ls hG hl
    have hi : i = 20 := by omega
    subst hi
    refine lv_iload hx hb dL_began_204 (lv_at hl 0 rfl) ?_
    refine lv_bipush (v := 20) hx hb dL_began_206 (by decide) ?_
    exact lv_icmp_ge (tgt := 268) hx hb dL_began_208 (by decide) (fun _ => K H locs ls hG hl) (fun c1 => absurd (show (20 : Int32) ≤ nI 20 by decide) c1)
  | succ k ih =>
    intro i hi H locs ls hG hl
    obtain ⟨e1, e2⟩ := e_w9 i (by omega)
    have ec : (nI (i / 4)).toNatClampNeg = i / 4 := nI_clamp (by omega)
    have h237 : ∀ (x : Int32), x = nI (chr9 tx at9 i) → ∀ (H : Heap) (locs : List Loc), SGb Γ ad s σ (wC Γ.2.1 bb v cm ml (nI tx.length) a [(wd, .inl (Γ.2.1 0, 5, .inl (wf9 (chr9 tx at9) i)))]) H locs → W p l e rmb s m args below meth c H locs cells slots Q (F0 m 237 ls [.int x]) := by
      intro x hx9 H locs hG
      refine lv_istore (lv' := [(7, .int x), (6, .int (nI i)), (5, .ref wd), (4, .int (nI at9)), (3, .ref bb), (2, .int (nI S)), (0, .ref (ad 0 0)), (1, .ref b)]) hx hb dL_began_237 hl (by decide) rfl (fun ls hl => ?_)
      refine lv_aload hx hb dL_began_239 (lv_at hl 2 rfl) ?_
      refine lv_iload hx hb dL_began_241 (lv_at hl 1 rfl) ?_
      refine lv_iconst (v := 4) hx hb dL_began_243 (by decide) ?_
      refine lv_idiv hx hb dL_began_244 (by decide) ?_
      rw [e1]
      refine lv_dup2_11 hx hb dL_began_245 rfl rfl ?_
      refine va_iald (D := Γ.1) hx hb cg.2.1 hG.2.1 2 0 rfl rfl (nI_in (show i / 4 < 5 by omega) (by omega)) dL_began_246 ?_
      rw [ec]
      refine lv_iload hx hb dL_began_247 (lv_at hl 0 rfl) ?_
      refine lv_bipush (v := 24) hx hb dL_began_249 (by decide) ?_
      refine lv_bipush (v := 8) hx hb dL_began_251 (by decide) ?_
      refine lv_iload hx hb dL_began_253 (lv_at hl 1 rfl) ?_
      refine lv_iconst (v := 4) hx hb dL_began_255 (by decide) ?_
      refine lv_irem hx hb dL_began_256 (by decide) ?_
      refine lv_imul hx hb dL_began_257 ?_
      refine lv_isub hx hb dL_began_258 ?_
      rw [e2]
      refine lv_ishl hx hb dL_began_259 ?_
      refine lv_ior hx hb dL_began_260 ?_
      refine r_gSt cg hG (nI_in (show i / 4 < 5 by omega) (by omega)) dL_began_261 (fun H locs hG => ?_)
      rw [ec, hx9] at hG
      refine lv_iinc (v := nI (i + 1)) (lv' := (6, .int (nI (i + 1))) :: (7, .int x) :: [(5, .ref wd), (4, .int (nI at9)), (3, .ref bb), (2, .int (nI S)), (0, .ref (ad 0 0)), (1, .ref b)]) hx hb dL_began_262 hl (k := 1) rfl (nI_1 i) (by decide) rfl (fun ls hl => ?_)
      have hl : lv_has ls 8 [(6, .int (nI (i + 1))), (5, .ref wd), (4, .int (nI at9)), (3, .ref bb), (2, .int (nI S)), (0, .ref (ad 0 0)), (1, .ref b)] := lv_sub hl [0, 2, 3, 4, 5, 6, 7] rfl
      refine lv_goto (tgt := 204) hx hb dL_began_265 (by decide) ?_
      exact ih (i + 1) (by omega) H locs ls hG hl
    refine lv_iload hx hb dL_began_204 (lv_at hl 0 rfl) ?_
    refine lv_bipush (v := 20) hx hb dL_began_206 (by decide) ?_
    refine lv_icmp_ge (tgt := 268) hx hb dL_began_208 (by decide) (fun c1 => absurd c1 (show ¬ nI 20 ≤ nI i from nI_ge (show i < 20 by omega) (by decide))) (fun _ => ?_)
    refine lv_iload hx hb dL_began_211 (lv_at hl 2 rfl) ?_
    refine lv_iload hx hb dL_began_213 (lv_at hl 0 rfl) ?_
    refine lv_iadd hx hb dL_began_215 ?_
    rw [nI_add]
    refine lv_aload_n hx hb dL_began_216 rfl (lv_at hl 3 rfl) ?_
    refine r_gI cg hG (As := []) (rest := [.int (nI (at9 + i))]) (q_length l Γ s.heap.size bb v cm ml (nI tx.length) a [(wd, .inl (Γ.2.1 0, 5, .inl (wf9 (chr9 tx at9) i)))]) (sb_recv cg.2.1 hG.2.1) jm_L174 ⟨Nat.le_of_ble_eq_true rfl, Nat.le_of_ble_eq_true rfl⟩ rfl (Nat.le_of_ble_eq_true rfl) hl.1 ⟨by show _ ≤ 60; omega, by show _ ≤ 12000; omega⟩ dL_began_217 (fun H locs hG => ?_)
    refine lv_icmp_ge (tgt := 235) hx hb dL_began_220 (by decide) (fun c1 => ?_) (fun c1 => ?_)
    · refine lv_bipush (v := 32) hx hb dL_began_235 (by decide) ?_
      have c2 : ¬ at9 + i < tx.length := fun z => nI_ge z (by omega) c1
      exact h237 32 (by unfold chr9; rw [if_neg c2]; rfl) H locs hG
    · have c2 : at9 + i < tx.length := Nat.not_le.mp (fun z => c1 (nI_le z (by omega)))
      refine lv_aload_n hx hb dL_began_223 rfl (lv_at hl 3 rfl) ?_
      refine lv_iload hx hb dL_began_224 (lv_at hl 2 rfl) ?_
      refine lv_iload hx hb dL_began_226 (lv_at hl 0 rfl) ?_
      refine lv_iadd hx hb dL_began_228 ?_
      rw [nI_add]
      refine r_gI cg hG (As := [.int (nI (at9 + i))]) (rest := []) (q_charAt l Γ s.heap.size bb v cm ml tx.length a (fun j => tx.getD j 0) (at9 + i) c2 hm hLt [(wd, .inl (Γ.2.1 0, 5, .inl (wf9 (chr9 tx at9) i)))]) (sb_recv cg.2.1 hG.2.1) jm_L178 ⟨Nat.le_of_ble_eq_true rfl, Nat.le_of_ble_eq_true rfl⟩ rfl (Nat.le_of_ble_eq_true rfl) hl.1 ⟨by show _ ≤ 60; omega, by show _ ≤ 12000; omega⟩ dL_began_229 (fun H locs hG => ?_)
      refine lv_goto (tgt := 237) hx hb dL_began_232 (by decide) ?_
      exact h237 _ (by unfold chr9; rw [if_pos c2]) H locs hG
set_option maxHeartbeats 8000000 in
set_option maxRecDepth 100000 in
theorem beg_l3 {p : Program} {l : Launch} {e : Env} {s : State} {m : MethodId} {args : Array Value} {below : List Frame} {meth : Method} {c : Code} {Γ : Wc} {ad : Nat → Nat → Nat} {b L : Nat} {xs : Nat → Int32} {bb : Nat} {Q : State → Prop} (cg : CGb Γ ad b L xs cL_began 8 p s m args c) {S : Nat} {tx : List Nat} {v cm J : Nat} {ml : Int32} {a : Nat → Int32} (hn : tx.length ≤ 63) (hJ : J ≤ 4) (hJn : tx.length ≤ 20 * J) (hm : tx.length ≤ cm ∧ cm ≤ 130) (hLt : sb_Lat (fun j => tx.getD j 0) tx.length a) (sg : Nat → Sig) (hsg : ∀ j, j < J → 20 * j < tx.length ∧ ∃ r, f11_append (wf9 (chr9 tx (20 * j)) 20 0) (wf9 (chr9 tx (20 * j)) 20 1) (wf9 (chr9 tx (20 * j)) 20 2) (wf9 (chr9 tx (20 * j)) 20 3) (wf9 (chr9 tx (20 * j)) 20 4) (sg j) = some (r, sg (j + 1))) (K : ∀ (H : Heap) (locs : List Loc) (ls : Array Slot), SGb Γ ad s (sg J) (wC Γ.2.1 bb v cm ml (nI tx.length) a []) H locs → lv_has ls 8 [(4, .int (nI (20 * J))), (3, .ref bb), (2, .int (nI S)), (0, .ref (ad 0 0)), (1, .ref b)] → W p l e rmb s m args below meth c H locs (42 + J) (8200 + 5 * J) Q (F0 m 299 ls [])) : ∀ (k j : Nat), j + k = J → ∀ (H : Heap) (locs : List Loc) (ls : Array Slot), SGb Γ ad s (sg j) (wC Γ.2.1 bb v cm ml (nI tx.length) a []) H locs → lv_has ls 8 [(4, .int (nI (20 * j))), (3, .ref bb), (2, .int (nI S)), (0, .ref (ad 0 0)), (1, .ref b)] → W p l e rmb s m args below meth c H locs (42 + j) (8200 + 5 * j) Q (F0 m 187 ls []) := by
  intro k
  have hx := cg.1.1
  have hb := cg.1.2.1
  induction k with
  | zero =>
    intro j hj H locs ls hG hl
    have hj : j = J := by omega
    subst hj
    refine lv_iload hx hb dL_began_187 (lv_at hl 0 rfl) ?_
    refine lv_aload_n hx hb dL_began_189 rfl (lv_at hl 1 rfl) ?_
    refine r_gI cg hG (As := []) (rest := [.int (nI (20 * j))]) (q_length l Γ s.heap.size bb v cm ml (nI tx.length) a []) (sb_recv cg.2.1 hG.2.1) jm_L174 ⟨Nat.le_of_ble_eq_true rfl, Nat.le_of_ble_eq_true rfl⟩ rfl (Nat.le_of_ble_eq_true rfl) hl.1 ⟨by show _ ≤ 60; omega, by show _ ≤ 12000; omega⟩ dL_began_190 (fun H locs hG => ?_)
    exact lv_icmp_ge (tgt := 299) hx hb dL_began_193 (by decide) (fun _ => K H locs ls hG hl) (fun c1 => absurd (nI_le hJn (by omega)) c1)
  | succ k ih =>
    intro j hj H locs ls hG hl
    obtain ⟨hjn, r9, hF⟩ := hsg j (by omega)
    refine lv_iload hx hb dL_began_187 (lv_at hl 0 rfl) ?_
    refine lv_aload_n hx hb dL_began_189 rfl (lv_at hl 1 rfl) ?_
    refine r_gI cg hG (As := []) (rest := [.int (nI (20 * j))]) (q_length l Γ s.heap.size bb v cm ml (nI tx.length) a []) (sb_recv cg.2.1 hG.2.1) jm_L174 ⟨Nat.le_of_ble_eq_true rfl, Nat.le_of_ble_eq_true rfl⟩ rfl (Nat.le_of_ble_eq_true rfl) hl.1 ⟨by show _ ≤ 60; omega, by show _ ≤ 12000; omega⟩ dL_began_190 (fun H locs hG => ?_)
    refine lv_icmp_ge (tgt := 299) hx hb dL_began_193 (by decide) (fun c1 => absurd c1 (nI_ge hjn (by omega))) (fun _ => ?_)
    refine lv_iconst (v := 5) hx hb dL_began_196 (by decide) ?_
    refine r_gN cg hG ⟨by show _ ≤ 60; omega, by show _ ≤ 12000; omega⟩ dL_began_197 (fun wd H hG => ?_)
    refine lv_astore (lv' := [(5, .ref wd), (4, .int (nI (20 * j))), (3, .ref bb), (2, .int (nI S)), (0, .ref (ad 0 0)), (1, .ref b)]) hx hb dL_began_199 hl (by decide) rfl (fun ls hl => ?_)
    refine lv_iconst (v := 0) hx hb dL_began_201 (by decide) ?_
    refine lv_istore (lv' := [(6, .int 0), (5, .ref wd), (4, .int (nI (20 * j))), (3, .ref bb), (2, .int (nI S)), (0, .ref (ad 0 0)), (1, .ref b)]) hx hb dL_began_202 hl (by decide) rfl (fun ls hl => ?_)
    refine beg_l4 cg (tx := tx) (at9 := 20 * j) hn (by omega) hm hLt (by omega) (by omega) (fun H locs ls hG hl => ?_) 20 0 rfl H locs ls hG hl
    refine lv_aload_n hx hb dL_began_268 rfl (lv_at hl 5 rfl) ?_
    refine lv_aload hx hb dL_began_269 (lv_at hl 1 rfl) ?_
    refine lv_iconst (v := 0) hx hb dL_began_271 (by decide) ?_
    refine va_iald (D := Γ.1) hx hb cg.2.1 hG.2.1 2 0 rfl rfl (show ¬ ((0 : Int32) < 0 ∨ 5 ≤ (0 : Int32).toNatClampNeg) by decide) dL_began_272 ?_
    rw [show (0 : Int32).toNatClampNeg = 0 from rfl]
    refine lv_aload hx hb dL_began_273 (lv_at hl 1 rfl) ?_
    refine lv_iconst (v := 1) hx hb dL_began_275 (by decide) ?_
    refine va_iald (D := Γ.1) hx hb cg.2.1 hG.2.1 2 0 rfl rfl (show ¬ ((1 : Int32) < 0 ∨ 5 ≤ (1 : Int32).toNatClampNeg) by decide) dL_began_276 ?_
    rw [show (1 : Int32).toNatClampNeg = 1 from rfl]
    refine lv_aload hx hb dL_began_277 (lv_at hl 1 rfl) ?_
    refine lv_iconst (v := 2) hx hb dL_began_279 (by decide) ?_
    refine va_iald (D := Γ.1) hx hb cg.2.1 hG.2.1 2 0 rfl rfl (show ¬ ((2 : Int32) < 0 ∨ 5 ≤ (2 : Int32).toNatClampNeg) by decide) dL_began_280 ?_
    rw [show (2 : Int32).toNatClampNeg = 2 from rfl]
    refine lv_aload hx hb dL_began_281 (lv_at hl 1 rfl) ?_
    refine lv_iconst (v := 3) hx hb dL_began_283 (by decide) ?_
    refine va_iald (D := Γ.1) hx hb cg.2.1 hG.2.1 2 0 rfl rfl (show ¬ ((3 : Int32) < 0 ∨ 5 ≤ (3 : Int32).toNatClampNeg) by decide) dL_began_284 ?_
    rw [show (3 : Int32).toNatClampNeg = 3 from rfl]
    refine lv_aload hx hb dL_began_285 (lv_at hl 1 rfl) ?_
    refine lv_iconst (v := 4) hx hb dL_began_287 (by decide) ?_
    refine va_iald (D := Γ.1) hx hb cg.2.1 hG.2.1 2 0 rfl rfl (show ¬ ((4 : Int32) < 0 ∨ 5 ≤ (4 : Int32).toNatClampNeg) by decide) dL_began_288 ?_
    rw [show (4 : Int32).toNatClampNeg = 4 from rfl]
    refine r_gX cg hG (As := [.int (wf9 (chr9 tx (20 * j)) 20 0), .int (wf9 (chr9 tx (20 * j)) 20 1), .int (wf9 (chr9 tx (20 * j)) 20 2), .int (wf9 (chr9 tx (20 * j)) 20 3), .int (wf9 (chr9 tx (20 * j)) 20 4)]) (rest := []) (w11_append l Γ ad (AXs ad) _ _ _ _ _ (sg j) r9 (sg (j + 1)) hF) mw13_182 rfl ⟨Nat.le_of_ble_eq_true rfl, Nat.le_of_ble_eq_true rfl⟩ rfl (Nat.le_of_ble_eq_true rfl) hl.1 ⟨by show _ ≤ 60; omega, by show _ ≤ 12000; omega⟩ dL_began_289 (fun H locs hG => ?_)
    refine lv_pop hx hb dL_began_292 rfl ?_
    refine lv_iinc (v := nI (20 * (j + 1))) (lv' := [(4, .int (nI (20 * (j + 1)))), (6, .int (nI 20)), (5, .ref wd), (3, .ref bb), (2, .int (nI S)), (0, .ref (ad 0 0)), (1, .ref b)]) hx hb dL_began_293 hl (k := 2) rfl (nI_add (20 * j) 20) (by decide) rfl (fun ls hl => ?_)
    have hl : lv_has ls 8 [(4, .int (nI (20 * (j + 1)))), (3, .ref bb), (2, .int (nI S)), (0, .ref (ad 0 0)), (1, .ref b)] := lv_sub hl [0, 3, 4, 5, 6] rfl
    have hG : SGb Γ ad s (sg (j + 1)) (wC Γ.2.1 bb v cm ml (nI tx.length) a []) H locs := ⟨hG.1, hG.2.1.sub [0, 1] rfl, hG.2.2.1.sub [0, 1] (by decide) rfl, hG.2.2.2⟩
    refine lv_goto (tgt := 187) hx hb dL_began_296 (by decide) ?_
    refine W.widen (k := 42 + (j + 1)) (n := 8200 + 5 * (j + 1)) (by omega) (by omega) ?_
    exact ih (j + 1) (by omega) H locs ls hG hl
def sc9 (L : Nat) (xs : Nat → Int32) : Nat := nat9 (1 + fmod (cellv L xs 0) 4)
def pr9 (L : Nat) (xs : Nat → Int32) (i : Nat) : Nat := nat9 (1 + fmod (cellv L xs (1 + i)) 60)
def tk9 (L : Nat) (xs : Nat → Int32) : Nat := nat9 (25 + fmod (cellv L xs 8) 50)
theorem fmd9 (x : Int32) {y k : Int32} (hy : 0 < y.toInt) (hk : 0 ≤ k.toInt) (hky : k.toInt + y.toInt ≤ 1000) : k + fmod x y = nI (nat9 (k + fmod x y)) ∧ k.toInt ≤ nat9 (k + fmod x y) ∧ (nat9 (k + fmod x y) : Int) < k.toInt + y.toInt := by
  have h := fmod_in (x := x) hy
  have h1 : (k + fmod x y).toInt = k.toInt + (fmod x y).toInt := tv_add rfl rfl (by omega)
  refine ⟨nat9_eq (by omega), ?_, ?_⟩ <;> (unfold nat9; omega)
theorem sc9_in (L : Nat) (xs : Nat → Int32) : 1 + fmod (cellv L xs 0) 4 = nI (sc9 L xs) ∧ 1 ≤ sc9 L xs ∧ sc9 L xs ≤ 4 := by
  obtain ⟨h1, h2, h3⟩ := fmd9 (cellv L xs 0) (y := 4) (k := 1) (by decide) (by decide) (by decide)
  have e1 : (1 : Int32).toInt = 1 := rfl
  have e4 : (4 : Int32).toInt = 4 := rfl
  unfold sc9
  exact ⟨h1, by omega, by omega⟩
theorem pr9_in (L : Nat) (xs : Nat → Int32) (i : Nat) : 1 + fmod (cellv L xs (1 + i)) 60 = nI (pr9 L xs i) ∧ 1 ≤ pr9 L xs i ∧ pr9 L xs i ≤ 60 := by
  obtain ⟨h1, h2, h3⟩ := fmd9 (cellv L xs (1 + i)) (y := 60) (k := 1) (by decide) (by decide) (by decide)
  have e1 : (1 : Int32).toInt = 1 := rfl
  have e4 : (60 : Int32).toInt = 60 := rfl
  unfold pr9
  exact ⟨h1, by omega, by omega⟩
theorem tk9_in (L : Nat) (xs : Nat → Int32) : 25 + fmod (cellv L xs 8) 50 = nI (tk9 L xs) ∧ 25 ≤ tk9 L xs ∧ tk9 L xs ≤ 74 := by
  obtain ⟨h1, h2, h3⟩ := fmd9 (cellv L xs 8) (y := 50) (k := 25) (by decide) (by decide) (by decide)
  have e1 : (25 : Int32).toInt = 25 := rfl
  have e4 : (50 : Int32).toInt = 50 := rfl
  unfold tk9
  exact ⟨h1, by omega, by omega⟩
/-- the whole text -/
def tx9 (L : Nat) (xs : Nat → Int32) : List Nat := ((beds9 L xs (sc9 L xs) (pT9 (pr9 L xs) (sc9 L xs) ++ [59]) 3 ++ txs 16) ++ dgs (tk9 L xs)) ++ [59]
theorem tx9_len (L : Nat) (xs : Nat → Int32) : (tx9 L xs).length ≤ 63 ∧ 43 < (tx9 L xs).length := by
  have h1 := sc9_in L xs
  have h2 := pT9_len (pr9 L xs) (sc9 L xs)
  have h3 := beds9_len L xs h1.2.1 h1.2.2 (pT9 (pr9 L xs) (sc9 L xs) ++ [59]) 3
  have h4 := txs_l.2.2
  have h5 := dgs_2 (tk9 L xs)
  unfold tx9
  simp only [List.length_append, List.length_cons, List.length_nil] at h3 ⊢
  omega
/-- how many rows of twenty letters -/
def nc9 (L : Nat) (xs : Nat → Int32) : Nat := ((tx9 L xs).length + 19) / 20
set_option maxHeartbeats 8000000 in
set_option maxRecDepth 100000 in
theorem w_began (l : Launch) (Γ : Wc) (ad : Nat → Nat → Nat) (b L : Nat) (xs : Nat → Int32) (N : Nat) (hL : L ≤ 260) (σ : Sig) (P : Sig → Prop) (sg : Nat → Sig) (h0 : sg 0 = σ) (hsg : ∀ j, j < nc9 L xs → ∃ r, f11_append (wf9 (chr9 (tx9 L xs) (20 * j)) 20 0) (wf9 (chr9 (tx9 L xs) (20 * j)) 20 1) (wf9 (chr9 (tx9 L xs) (20 * j)) 20 2) (wf9 (chr9 (tx9 L xs) (20 * j)) 20 3) (wf9 (chr9 (tx9 L xs) (20 * j)) 20 4) (sg j) = some (r, sg (j + 1))) (hrun : ∃ σ', f11_runScript (sg (nc9 L xs)) = some (0, σ') ∧ P σ') :
    Met l yL_began (Wsd yL_began cL_began 8 (some .int)) rmb (va_Pc [.ref (ad 0 0), .ref b] (PBg Γ ad b L xs N σ)) (va_Qi (fun r (_ : Unit) => r = 0) (fun _ t => ∃ σ', PX SX Γ ad σ' t.heap ∧ P σ') (AG9 ad N)) 60 12000 (AG9 ad N) := by
  obtain ⟨σ', hrun, hPσ⟩ := hrun
  have htl := tx9_len L xs
  obtain ⟨hS, hS1c, hS4⟩ := sc9_in L xs
  refine Met.ofW (cc := cL_began) (maxL := 8) (ret := some .int) (by decide) rfl ?_
  intro p e s m args below meth c s₁ B hml hv
  obtain ⟨rfl, hPX, hK, hA, hZ, hV, hDG, hX, hb9, hbA, rfl⟩ := hv
  have hr := B.returns
  have hnl := B.notSynchronized
  have htg : ∀ w ∈ gw, w.before _ s = true := fun w hw => atoms_spec (ws := Wsd yL_began cL_began 8 (some .int)) B.pre w (List.mem_cons_of_mem _ hw)
  have cg : CGb Γ ad b L xs cL_began 8 p s m _ c := ⟨⟨B.exec, B.bytes, hml, findClass_of_methodNamed B.named, htg⟩, hK, hA, hZ, hV, hDG, hX, hb9, hbA, fun g c hd => (hPX g c hd).lt⟩
  have hx := cg.1.1
  have hb := cg.1.2.1
  rw [lg_entry_eq]
  have hl := lv_entry ([.ref (ad 0 0), .ref b]) (n := 8) (Nat.le_of_ble_eq_true rfl)
  generalize (lg_sl ([.ref (ad 0 0), .ref b]) ++ List.replicate (8 - (lg_sl ([.ref (ad 0 0), .ref b])).length) Slot.unset).toArray = ls at hl ⊢
  have hl : lv_has ls 8 [(0, .ref (ad 0 0)), (1, .ref b)] := hl
  have hS0 : va_S (AN s.heap.size) s.heap s.heap [] := va_S.rf
  refine lv_aload_n hx hb dL_began_0 rfl (lv_at hl 1 rfl) ?_
  refine lv_iconst (v := 0) hx hb dL_began_1 (by decide) ?_
  refine lv_iconst (v := 1) hx hb dL_began_2 (by decide) ?_
  refine lv_iconst (v := 4) hx hb dL_began_3 (by decide) ?_
  refine r_callA cg.1 hX hb9 (Nat.not_le.mpr hb9) hS0 (As := [.ref b, .int (Int32.ofNat 0), .int 1, .int 4]) (rest := []) (a_of l b L xs 0 1 4 (by decide) hL (by decide)) mw13_148 ⟨Nat.le_of_ble_eq_true rfl, Nat.le_of_ble_eq_true rfl⟩ rfl (Nat.le_of_ble_eq_true rfl) hl.1 ⟨by show _ ≤ 60; omega, by show _ ≤ 12000; omega⟩ dL_began_4 (fun H locs hz hk hS0 => ?_)
  rw [hS]
  refine lv_istore_n (lv' := [(2, .int (nI (sc9 L xs))), (0, .ref (ad 0 0)), (1, .ref b)]) hx hb dL_began_7 rfl hl (by decide) rfl (fun ls hl => ?_)
  refine va_new (D := Γ.1) (cl := vwCl) (ws := []) (A := AN s.heap.size) (ci := 12) (fs := [.null, .int 0, .int 0, .int 0]) (C := RJ4) (T := TJ4) (N := 4) hx hb htg inJ4 tyJ4 tyJ4_ok cg.cx.hown (htg _ jl_152) (htg _ ji_J4) (htg _ jn_J4) hK (fun k q h => nomatch h) ⟨(fun i j x y h => nomatch h), (fun k q h => nomatch h)⟩ hS0 (fun q h => h) rfl (fun j hj => by rcases (show j = 0 ∨ j = 1 ∨ j = 2 ∨ j = 3 by omega) with rfl | rfl | rfl | rfl <;> rfl) (Nat.le_of_ble_eq_true rfl) (Nat.le_of_ble_eq_true rfl) dL_began_8 (fun bb H hP hD hS0 => ?_)
  have hG : SGb Γ ad s σ [(bb, .inr (12, [.null, .int 0, .int 0, .int 0]))] H locs := ⟨fun g c hd => (hPX g c hd).kept (hS0.2.1 _ (hPX g c hd).lt (Nat.not_le.mpr (hPX g c hd).lt)), hP, hD, hS0.1, fun q h1 h2 => hS0.2.1 q h1 (fun z => h2 (Or.inr z)), fun q h => Or.inr (hS0.2.2 q h)⟩
  refine lv_dup hx hb dL_began_11 rfl ?_
  refine r_ldc cg.cx (k := 14) (by decide) ⟨rfl, rfl⟩ dL_began_12 ?_
  refine va_callv (va_runI (As := [.ref (Γ.2.2.1 14)]) (rest := [.ref bb]) cg.1 (q_sbInit l Γ s.heap.size bb 14 (by decide) (by decide)) (jm_L156 htg ⟨Nat.le_of_ble_eq_true rfl, Nat.le_of_ble_eq_true rfl⟩) ⟨PB.blind, fun U hU hW => ⟨rfl, hG.pb cg hU hW⟩⟩ rfl rfl hl.1 rfl (lv_room (Nat.le_of_ble_eq_true rfl)) dL_began_14 ⟨Nat.le_of_ble_eq_true rfl, Nat.le_of_ble_eq_true rfl⟩) hG.2.2.2 (fun q _ h => Or.inr h) (fun q h => Or.inr h) (fun u t H locs ht hvm hw hB hz1 hk1 hS1 => ?_)
  obtain ⟨w1, hT, hP1, hD1⟩ := hB
  have hG := hG.after cg hk1 (by rw [← ht]; exact hP1) hD1 hS1
  have hT : TL9 Γ.2.1 bb (pT9 (pr9 L xs) 0) w1 := TB.tl (tx := []) (ty := txs 14) (f := strC 14) hT (txs_at 14 (by decide) (by decide)).1 (txs_at 14 (by decide) (by decide)).2
  refine lv_astore_n (lv' := [(3, .ref bb), (2, .int (nI (sc9 L xs))), (0, .ref (ad 0 0)), (1, .ref b)]) hx hb dL_began_17 rfl hl (by decide) rfl (fun ls hl => ?_)
  refine lv_iconst (v := 0) hx hb dL_began_18 (by decide) ?_
  refine lv_istore (lv' := [(4, .int 0), (3, .ref bb), (2, .int (nI (sc9 L xs))), (0, .ref (ad 0 0)), (1, .ref b)]) hx hb dL_began_19 hl (by decide) rfl (fun ls hl => ?_)
  refine W.widen (k := 3 + 2 * 0) (n := 300 + 400 * 0) (by decide) (by decide) ?_
  refine beg_l1 cg hL (S := sc9 L xs) hS4 (pr9 L xs) (fun i _ => ⟨(pr9_in L xs i).1, Nat.lt_of_le_of_lt (pr9_in L xs i).2.2 (by decide)⟩) (fun w H locs ls hG hT hl => ?_) (sc9 L xs) 0 (Nat.zero_add _) _ H locs ls hG hT hl
  have hlen := pT9_len (pr9 L xs) (sc9 L xs)
  refine lv_aload_n hx hb dL_began_54 rfl (lv_at hl 1 rfl) ?_
  refine lv_bipush (v := 59) hx hb dL_began_55 (by decide) ?_
  refine r_apC cg hG hT 59 (by decide) (by omega) ⟨Nat.le_of_ble_eq_true rfl, Nat.le_of_ble_eq_true rfl⟩ (by rfl) (Nat.le_of_ble_eq_true rfl) hl.1 ⟨by show _ ≤ 60; omega, by show _ ≤ 12000; omega⟩ dL_began_57 (fun w H locs hT hG => ?_)
  refine lv_pop hx hb dL_began_60 rfl ?_
  refine lv_iconst (v := 0) hx hb dL_began_61 (by decide) ?_
  refine lv_istore (lv' := [(4, .int 0), (3, .ref bb), (2, .int (nI (sc9 L xs))), (0, .ref (ad 0 0)), (1, .ref b)]) hx hb dL_began_62 hl (by decide) rfl (fun ls hl => ?_)
  refine W.widen (k := 12 + 9 * 0) (n := 2200 + 1800 * 0) (by omega) (by omega) ?_
  refine beg_l2 cg hL (S := sc9 L xs) hS1c hS4 (tx := pT9 (pr9 L xs) (sc9 L xs) ++ [59]) (by simp only [List.length_append, List.length_cons, List.length_nil]; omega) (fun w H locs ls hG hT hl => ?_) 3 0 rfl _ H locs ls hG hT hl
  have hbl := beds9_len L xs hS1c hS4 (pT9 (pr9 L xs) (sc9 L xs) ++ [59]) 3
  refine W.widen (k := 39) (n := 7600) (by decide) (by decide) ?_
  refine beg_3 cg hL (S := sc9 L xs) (by simp only [List.length_append, List.length_cons, List.length_nil] at hbl; omega) (n := tk9 L xs) ⟨(tk9_in L xs).1, Nat.lt_of_le_of_lt (tk9_in L xs).2.2 (by decide)⟩ (fun w H locs ls hG hT hl => ?_) hG hT hl
  have hT : TL9 Γ.2.1 bb (tx9 L xs) w := hT
  obtain ⟨v, cm, ml, a, rfl, h1, h2, h3, h4⟩ := hT
  have hJ : (tx9 L xs).length ≤ 20 * nc9 L xs ∧ nc9 L xs ≤ 4 ∧ ∀ j, j < nc9 L xs → 20 * j < (tx9 L xs).length := by unfold nc9; exact ⟨by omega, by omega, fun j hj => by omega⟩
  refine beg_l3 cg (S := sc9 L xs) (tx := tx9 L xs) htl.1 hJ.2.1 hJ.1 ⟨h1, h2⟩ h4 sg (fun j hj => ⟨hJ.2.2 j hj, hsg j hj⟩) (fun H locs ls hG hl => ?_) (nc9 L xs) 0 (Nat.zero_add _) H locs ls (by rw [h0]; exact hG) hl
  refine lv_aload_n hx hb dL_began_299 rfl (lv_at hl 3 rfl) ?_
  refine r_gX cg hG (As := []) (rest := []) (w11_runScript l Γ ad (AXs ad) _ _ _ hrun) mw13_185 rfl ⟨Nat.le_of_ble_eq_true rfl, Nat.le_of_ble_eq_true rfl⟩ rfl (Nat.le_of_ble_eq_true rfl) hl.1 ⟨by show _ ≤ 60; omega, by show _ ≤ 12000; omega⟩ dL_began_300 (fun H locs hG => ?_)
  refine W.widen (k := 60) (n := 12000) (by omega) (by omega) ?_
  exact W.iret (v := 0) hx hb hr (fun t ht hW => ⟨⟨0, (), rfl, rfl, σ', by rw [ht]; exact hG.1, hPσ⟩, hG.2.2.2.F ht⟩) hG.2.2.2.2.2 dL_began_303 hnl
