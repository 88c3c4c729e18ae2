/-! printed: History's and Script's constructors -/
theorem cA_garden {D : va_G} {K : Nat → ClassId} {U : State} {cA : ClassId} (h : va_K D vwCl (tyK K ++ [(cA, .object RX4)]) U) : cA = K 3 := by
  obtain ⟨_, _, _, _, _, h1⟩ := (h.2 3 _ rfl).2
  obtain ⟨_, _, _, _, _, h2⟩ := (h.2 4 _ rfl).2
  have e := h1.symm.trans h2
  cases e
  rfl
theorem ct_last {D : va_G} {ws : va_W} {x : Nat × va_E} {H : Heap} (h : va_P D vwCl (ws ++ [x]) H) : va_P D vwCl [x] H := by
  intro k q hk
  have hz : k < 1 := (List.getElem?_eq_some_iff.mp hk).1
  rw [show k = 0 by omega] at hk
  cases hk
  exact h ws.length x (by rw [List.getElem?_append_right (Nat.le_refl _), Nat.sub_self]; rfl)
theorem cd_last {A : Nat → Prop} {ws : va_W} {x : Nat × va_E} (h : va_D A (ws ++ [x])) : va_D A [x] := by
  refine ⟨fun i j p q hi hj _ => ?_, fun k q hk => ?_⟩
  · have h1 : i < 1 := (List.getElem?_eq_some_iff.mp hi).1
    have h2 : j < 1 := (List.getElem?_eq_some_iff.mp hj).1
    omega
  · have hz : k < 1 := (List.getElem?_eq_some_iff.mp hk).1
    rw [show k = 0 by omega] at hk
    cases hk
    exact h.2 ws.length x (by rw [List.getElem?_append_right (Nat.le_refl _), Nat.sub_self]; rfl)
theorem cf_last {A : Nat → Prop} {ws : va_W} {x : Nat × va_E} {H0 H : Heap} {locs : List Loc} (hD : va_D A (ws ++ [x])) (hS : va_S A H0 H locs) (hA : ∀ q, H0.size ≤ q → A q) : ∀ q, va_A [x] H.size q → A q := by
  rintro q (⟨k, e, hk⟩ | h)
  · exact (cd_last hD).2 k _ hk
  · exact hA q (Nat.le_trans hS.1 h)
theorem ct_join {A : Nat → Prop} {D : va_G} {ws w1 : va_W} {x : Nat × va_E} {H H1 : Heap} (hP : va_P D vwCl (ws ++ [x]) H) (hD : va_D A (ws ++ [x])) (hk : ∀ q : Nat, q < H.size → ¬ va_A [x] H.size q → H1[q]? = H[q]?) (hF : ∀ q, va_A [x] H.size q → A q) (hP1 : va_P D vwCl w1 H1) (hD1 : va_D (va_A [x] H.size) w1) : va_P D vwCl (ws ++ w1) H1 ∧ va_D A (ws ++ w1) := by
  have at' : ∀ (k : Nat) (q : Nat × va_E), ws[k]? = some q → (ws ++ [x])[k]? = some q := fun k q h => by
    rw [List.getElem?_append_left (List.getElem?_eq_some_iff.mp h).1]; exact h
  have hx : (ws ++ [x])[ws.length]? = some x := by rw [List.getElem?_append_right (Nat.le_refl _), Nat.sub_self]; rfl
  have no : ∀ (k : Nat) (q : Nat × va_E), ws[k]? = some q → ¬ va_A [x] H.size q.1 := by
    rintro k q h (⟨j, e, hj⟩ | hz)
    · have hz : j < 1 := (List.getElem?_eq_some_iff.mp hj).1
      rw [show j = 0 by omega] at hj
      cases hj
      have := hD.1 k ws.length q _ (at' k q h) hx rfl
      have := (List.getElem?_eq_some_iff.mp h).1
      omega
    · have := (hP k q (at' k q h)).lt
      omega
  refine ⟨va_P.app (fun k q h => (hP k q (at' k q h)).kept (hk _ (hP k q (at' k q h)).lt (no k q h))) hP1, va_D.app ⟨fun i j p q hi hj => hD.1 i j p q (at' i p hi) (at' j q hj), fun k q h => hD.2 k q (at' k q h)⟩ (hD1.weaken (fun _ _ _ h => hF _ h)) ?_⟩
  intro i j p q hi hj e
  exact no i p hi (e ▸ hD1.2 j q hj)
def MNh (l : Launch) (D : va_G) (K : Nat → ClassId) (y : MethodName) (cc : ByteArray) (nL fr lo mc ms h0 : Nat) (w0 : va_W) (sz : Nat) (P1 : va_W → Prop) : Prop :=
  Met l y (Wsd y cc nL none) { frames := fr, cells := mc, slots := ms, locals := lo } (va_Pc [.ref h0] (fun U => U.heap.size = sz ∧ va_P D vwCl w0 U.heap ∧ va_K D vwCl (tyK K) U ∧ va_D (fun _ => True) w0 ∧ NW U ∧ va_AO RX4 U)) (va_Qv (fun _ : Unit => True) (fun _ t => ∃ w1, P1 w1 ∧ va_P D vwCl w1 t.heap ∧ va_D (va_A w0 sz) w1) (va_A w0 sz)) mc ms (va_A w0 sz)
/-- History's world when i gardens are made -/
def hX (K : Nat → ClassId) (i : Nat) (aa : Nat → Nat → Nat) : va_W := (List.range i).flatMap (fun j => gl K (aa j))
def hf_ (i : Nat) (aa : Nat → Nat → Nat) : Nat → Option Nat := fun j => if j < i then some (aa j 0) else none
def PN5 (K : Nat → ClassId) (h0 : Nat) (w1 : va_W) : Prop := ∃ (r : Nat) (aa : Nat → Nat → Nat), w1 = [(h0, .inr (5, [.ref r, .int 0, .int 0])), (r, .inl (K 3, 8, .inr (.inr (.inr (.inr (hf_ 8 aa))))))] ++ hX K 8 aa
theorem fm_congr {α : Type} {f g : Nat → List α} : ∀ (L : List Nat), (∀ j ∈ L, f j = g j) → L.flatMap f = L.flatMap g := by
  intro L
  induction L with
  | nil => intro _; rfl
  | cons x xs ih =>
    intro h
    rw [List.flatMap_cons, List.flatMap_cons, h x List.mem_cons_self, ih (fun j hj => h j (List.mem_cons_of_mem _ hj))]
theorem hX_s (K : Nat → ClassId) (i : Nat) (aa : Nat → Nat → Nat) (a : Nat → Nat) : hX K (i + 1) (fun j => if j = i then a else aa j) = hX K i aa ++ gl K a := by
  unfold hX
  rw [List.range_succ, List.flatMap_append]
  congr 1
  · refine fm_congr _ (fun j hj => ?_)
    have := List.mem_range.mp hj
    show gl K (if j = i then a else aa j) = gl K (aa j)
    rw [if_neg (by omega)]
  · simp
theorem hf_s (i : Nat) (aa : Nat → Nat → Nat) (a : Nat → Nat) : va_up (hf_ i aa) i (some (a 0)) = hf_ (i + 1) (fun j => if j = i then a else aa j) := by
  funext j
  unfold va_up hf_
  by_cases h : j = i
  · rw [if_pos h, if_pos (by omega)]
    simp only [h, if_true]
  · rw [if_neg h]
    by_cases h2 : j < i
    · rw [if_pos h2, if_pos (by omega)]
      simp only [h, if_false]
    · rw [if_neg h2, if_neg (by omega)]
set_option maxHeartbeats 4000000 in
set_option maxRecDepth 100000 in
theorem hist_loop {p : Program} {l : Launch} {e : Env} {s : State} {m : MethodId} {args : Array Value} {below : List Frame} {meth : Method} {c : Code} {Q : State → Prop} {D : va_G} {K : Nat → ClassId} {A : Nat → Prop} {h0 r : Nat} (hx : p.tables.exec = Jvm.exec) (hb : c.code = cX5_init) (hml : c.maxLocals = 2) (hown : s.vm.findClass RX5 = some m.cls) (htg : ∀ w ∈ gw, w.before args s = true) (hK : va_K D vwCl (tyK K) s) (hA : ∀ q : Nat, s.heap.size ≤ q → A q) (hNW : NW s)
    (fin : ∀ (aa : Nat → Nat → Nat) (H : Heap) (locs : List Loc) (ls : Array Slot), va_P D vwCl ([(h0, .inr (5, [.ref r, .int 0, .int 0])), (r, .inl (K 3, 8, .inr (.inr (.inr (.inr (hf_ 8 aa))))))] ++ hX K 8 aa) H → va_D A ([(h0, .inr (5, [.ref r, .int 0, .int 0])), (r, .inl (K 3, 8, .inr (.inr (.inr (.inr (hf_ 8 aa))))))] ++ hX K 8 aa) → va_S A s.heap H locs → W p l e { frames := 3, cells := 233, slots := 4520, locals := 54 } s m args below meth c H locs 233 4520 Q (F0 m 40 ls [])) : ∀ (n i : Nat) (aa : Nat → Nat → Nat) (H : Heap) (locs : List Loc) (ls : Array Slot), i + n = 8 → va_P D vwCl ([(h0, .inr (5, [.ref r, .int 0, .int 0])), (r, .inl (K 3, 8, .inr (.inr (.inr (.inr (hf_ i aa))))))] ++ hX K i aa) H → va_D A ([(h0, .inr (5, [.ref r, .int 0, .int 0])), (r, .inl (K 3, 8, .inr (.inr (.inr (.inr (hf_ i aa))))))] ++ hX K i aa) → va_S A s.heap H locs → lv_has ls 2 [(1, .int (nI i)), (0, .ref h0)] → W p l e { frames := 3, cells := 233, slots := 4520, locals := 54 } s m args below meth c H locs (1 + 29 * i) (8 + 564 * i) Q (F0 m 15 ls []) := by
  intro n
  induction n with
  | zero =>
    intro i aa H locs ls hi hP hD hS hl
    obtain rfl : i = 8 := by omega
    refine lv_iload_n hx hb dX5_init_15 rfl (lv_at hl 0 rfl) ?_
    refine lv_bipush (v := 8) hx hb dX5_init_16 (by decide) ?_
    refine lv_icmp_ge (tgt := 40) hx hb dX5_init_18 (by decide) (fun c1 => ?_) (fun c1 => absurd (by decide) c1)
    exact fin aa H locs ls hP hD hS
  | succ n ih =>
    intro i aa H locs ls hi hP hD hS hl
    refine lv_iload_n hx hb dX5_init_15 rfl (lv_at hl 0 rfl) ?_
    refine lv_bipush (v := 8) hx hb dX5_init_16 (by decide) ?_
    refine lv_icmp_ge (tgt := 40) hx hb dX5_init_18 (by decide) (fun c1 => absurd c1 (show ¬ nI 8 ≤ nI i from nI_ge (by omega) (by decide))) (fun c1 => ?_)
    refine lv_aload_n hx hb dX5_init_21 rfl (lv_at hl 1 rfl) ?_
    refine va_get (D := D) (ci := 5) (v := .ref r) (C := RX5) (T := TX5) (N := 3) hx hb htg inX5 hown hK hP 0 rfl rfl 0 (by decide) (htg _ (gw_t (tin2 (List.mem_of_getElem? (i := 53) rfl)) rfl)) (fun _ h9 => h9) rfl dX5_init_22 ?_
    refine lv_iload_n hx hb dX5_init_25 rfl (lv_at hl 0 rfl) ?_
    refine va_new (ci := 4) (fs := [.null, .null, .null, .null, .null, .null, .int 0]) (C := RX4) (T := TX4) (N := 7) hx hb htg inX4 tyX4 tyX4_ok hown (htg (.classLink RX5 9 RX4) (gw_t (tin2 (List.mem_of_getElem? (i := 50) rfl)) rfl)) (htg (.instantiable RX4 7) (gw_t (tin1 (List.mem_of_getElem? (i := 40) rfl)) rfl)) (htg (.initialized RX4) (gw_t (tin1 (List.mem_of_getElem? (i := 2) rfl)) rfl)) hK hP hD hS hA rfl (fun j hj => by rcases (show j = 0 ∨ j = 1 ∨ j = 2 ∨ j = 3 ∨ j = 4 ∨ j = 5 ∨ j = 6 by omega) with rfl | rfl | rfl | rfl | rfl | rfl | rfl <;> rfl) (show 1 + 29 * i + 1 ≤ 233 by omega) (show 8 + 564 * i + 7 ≤ 4520 by omega) dX5_init_26 (fun q H hP hD hS => ?_)
    refine lv_dup hx hb dX5_init_29 rfl ?_
    have hPc := ct_last hP
    have hDc := cd_last hD
    have hFc := cf_last hD hS hA
    refine va_callv (va_runIN (As := []) (rest := [.ref q, .int (nI i), .ref r]) ⟨hx, hb, hml, hown, htg⟩ (wn4 l D K q H.size) ⟨va_cnB 0 htg (gw_cons (gw_t (tin1 (List.mem_of_getElem? (i := 43) rfl)) rfl)) rfl rfl rfl (hNW (RX5, 17, yX4_init) (by decide +kernel)) (htg (.initialized RX4) (gw_t (tin1 (List.mem_of_getElem? (i := 2) rfl)) rfl)) (by decide +kernel) ⟨Nat.le_of_ble_eq_true rfl, Nat.le_of_ble_eq_true rfl⟩, rfl, htg (.instanceMethod yX4_init) (gw_t (tin1 (List.mem_of_getElem? (i := 42) rfl)) rfl)⟩ ⟨fun a U g mk q => by obtain ⟨q0, q1, qP, qK, qD, qN⟩ := q; exact ⟨q0, q1, qP, va_K.moved (u := U) (U := U.calling g mk a) (Vm.Alike.refl U.vm) qK, qD, NW.same (s := U) (U := U.calling g mk a) rfl qN⟩, fun U hU hW => ⟨rfl, by rw [hU], by rw [hU]; exact hPc, va_K.moved hW.alike hK, hDc.weaken (fun _ _ _ _ => trivial), hNW.warm hW⟩⟩ rfl rfl hl.1 rfl (lv_room (Nat.le_of_ble_eq_true rfl)) dX5_init_30 ⟨show 1 + 29 * i + 1 + 28 ≤ 233 by omega, show 8 + 564 * i + 7 + 557 ≤ 4520 by omega⟩) hS (fun q _ h => hFc q h) hFc (fun u t H1 locs ht hvm hw hB hz1 hk1 hS => ?_)
    obtain ⟨w1, ⟨a, rfl, rfl⟩, hP1, hD1⟩ := hB
    rw [ht] at hP1
    obtain ⟨hP, hD⟩ := ct_join hP hD hk1 hFc hP1 hD1
    refine va_astq hx hb hK hP hD hS 1 3 ([(h0, Sum.inr (5, [Value.ref r, Value.int 0, Value.int 0])), (r, Sum.inl (K 3, 8, Sum.inr (Sum.inr (Sum.inr (Sum.inr (hf_ i aa))))))] ++ hX K i aa : va_W).length 4 (r := (RX4, TX4, 7)) rfl rfl (by rw [List.getElem?_append_right (Nat.le_refl _), Nat.sub_self]; rfl) rfl (nI_in (show i < 8 by omega) (by decide)) dX5_init_33 (fun H locs hP hD hS => ?_)
    rw [nI_clamp (show i < 2 ^ 31 by omega), hf_s] at hP hD
    refine lv_iinc (v := nI (i + 1)) (lv' := [(1, .int (nI (i + 1))), (0, .ref h0)]) hx hb dX5_init_34 hl (k := 0) rfl (by rw [nI_succ]; rfl) (by decide) rfl (fun ls hl => ?_)
    refine lv_goto (tgt := 15) hx hb dX5_init_37 (by decide) ?_
    refine W.widen (k := 1 + 29 * (i + 1)) (n := 8 + 564 * (i + 1)) (by omega) (by omega) ?_
    refine ih (i + 1) (fun j => if j = i then a else aa j) H locs ls (by omega) ?_ ?_ hS hl
    · rw [hX_s, ← List.append_assoc]; exact hP
    · rw [hX_s, ← List.append_assoc]; exact hD
set_option maxHeartbeats 4000000 in
set_option maxRecDepth 100000 in
theorem wn5 (l : Launch) (D : va_G) (K : Nat → ClassId) (h0 sz : Nat) : MNh l D K yX5_init cX5_init 2 3 54 233 4520 h0 [(h0, .inr (5, [.null, .int 0, .int 0]))] sz (PN5 K h0) := by
  refine Met.ofW (cc := cX5_init) (maxL := 2) (ret := none) (by decide) rfl ?_
  intro p e s m args below meth c s₁ B hml hv
  obtain ⟨rfl, hsz, hP, hK, hD0, hNW, hAO⟩ := hv
  have hx := B.exec
  have hb := B.bytes
  have hr := B.returns
  have hts := atoms_spec (ws := Wsd yX5_init cX5_init 2 none) B.pre
  have htg : ∀ w ∈ gw, w.before _ s = true := fun w h => hts w (List.mem_cons_of_mem _ h)
  have hown : s.vm.findClass RX5 = some m.cls := findClass_of_methodNamed B.named
  have hin : meth.name = "<init>" := (name_of_methodNamed B.named B.method).1
  have hnl := B.notSynchronized
  subst hsz
  have hD := hD0.self (sz := s.heap.size)
  generalize hAe : va_A [(h0, .inr (5, [.null, .int 0, .int 0]))] s.heap.size = A at hD ⊢
  have hA : ∀ q : Nat, s.heap.size ≤ q → A q := fun q h => by rw [← hAe]; exact Or.inr h
  have hS : va_S A s.heap s.heap [] := va_S.rf
  have hP : va_P D vwCl [(h0, .inr (5, [.null, .int 0, .int 0]))] s.heap := hP
  have hl := lv_entry ([.ref h0]) (n := 2) (Nat.le_of_ble_eq_true rfl)
  rw [lg_entry_eq]
  generalize (lg_sl ([.ref h0]) ++ List.replicate (2 - (lg_sl ([.ref h0])).length) Slot.unset).toArray = ls at hl ⊢
  have hl : lv_has ls 2 [(0, .ref h0)] := hl
  refine lv_aload_n hx hb dX5_init_0 rfl (lv_at hl 0 rfl) ?_
  refine W.objInit hx hb hown (htg (.methodLink RX5 3 objectInit) (gw_t (tin2 (List.mem_of_getElem? (i := 49) rfl)) rfl)) (htg (.instanceMethod objectInit) (gw_t (tin1 (List.mem_of_getElem? (i := 37) rfl)) rfl)) (htg (.code objectInit ⟨#[0xb1]⟩ 1 none) (gw_t (tin1 (List.mem_of_getElem? (i := 38) rfl)) rfl)) rfl (by rw [hml]; exact hl.1) rfl dX5_init_1 (Nat.le_of_ble_eq_true rfl) (Nat.le_of_ble_eq_true rfl) ?_
  refine W.eq (g2 := F0 m 4 ls []) rfl ?_
  refine lv_aload_n hx hb dX5_init_4 rfl (lv_at hl 0 rfl) ?_
  refine lv_bipush (v := 8) hx hb dX5_init_5 (by decide) ?_
  refine va_newq hx hb hown (htg (.classLink RX5 9 RX4) (gw_t (tin2 (List.mem_of_getElem? (i := 50) rfl)) rfl)) hAO hK hP hD hS hA (by decide) (N' := 8) (by decide) (Nat.le_of_ble_eq_true rfl) (Nat.le_of_ble_eq_true rfl) (Nat.le_of_ble_eq_true rfl) dX5_init_7 (fun r cA H hK1 hP hD hS => ?_)
  have ec := cA_garden hK1
  subst ec
  have hP : va_P D vwCl [(h0, .inr (5, [.null, .int 0, .int 0])), (r, .inl (K 3, 8, .inr (.inr (.inr (.inr (fun _ => none))))))] H := hP
  have hD : va_D A [(h0, .inr (5, [.null, .int 0, .int 0])), (r, .inl (K 3, 8, .inr (.inr (.inr (.inr (fun _ => none))))))] := hD
  refine va_putF (D := D) (ci := 5) (v := .ref r) (ty := .array (.object RX4)) (C := RX5) (T := TX5) (N := 3) hx hb htg inX5 tyX5 tyX5_ok nmX5 hown hK hP hD hS 0 rfl rfl 0 (by decide) (htg _ (gw_t (tin2 (List.mem_of_getElem? (i := 53) rfl)) rfl)) (fun _ h9 => h9) rfl hin rfl (by decide +kernel) rfl rfl (Nat.le_of_ble_eq_true rfl) dX5_init_10 (fun H locs hP hD hS => ?_)
  refine lv_iconst (v := 0) hx hb dX5_init_13 (by decide) ?_
  refine lv_istore_n (lv' := [(1, .int 0), (0, .ref h0)]) hx hb dX5_init_14 rfl hl (by decide) rfl (fun ls hl => ?_)
  exact hist_loop (h0 := h0) (r := r) hx hb hml hown htg hK hA hNW (fun aa H locs ls hP hD hS => W.vret hx hb hr (fun t ht hW => ⟨⟨(), rfl, trivial, _, ⟨r, aa, rfl⟩, by rw [ht]; exact hP, hD⟩, hS.F ht⟩) hS.2.2 dX5_init_40) 8 0 (fun _ _ => 0) H locs ls rfl (by exact hP) (by exact hD) hS hl
