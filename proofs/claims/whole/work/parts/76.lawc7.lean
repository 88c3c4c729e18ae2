/-! printed: the law's cases 56 to 63 -/
section LWC
variable {p : Program} {l : Launch} {e : Env} {s : State} {m : MethodId} {below : List Frame} {meth : Method} {c : Code} {H : Heap} {locs : List Loc} {cells slots : Nat} {Q : State → Prop}
variable {b L o : Nat} {xs : Nat → Int32} {ls : Array Slot} {Γ : Wc} {ax am : Nat → Nat → Nat} {σ τ : Sig} {f : Nat → Int64}
set_option maxHeartbeats 4000000 in
set_option maxRecDepth 100000 in
theorem lc_56 (C : LC l Γ p s m b L xs c) (D : LD s ax am o) (I : LI Γ s ax am o σ τ f H locs) (hR : Rl σ τ) {j : Nat} (hj : j + 6 ≤ L ∧ L ≤ 3072) (hl : lv_has ls 9 (LV b ax am o j)) (hcs : cells + 5 ≤ 601024 ∧ slots + 30 ≤ 7293034) {x : Int32} (hx : x.toInt = 56) (K : LK p l e s m b below meth c Γ ax am o Q cells slots j) : W p l e room_1 s m #[Value.ref b] below meth c H locs cells slots Q (F0 m 40 ls [.int x]) := by
  refine lv_tableIn (off := 3005) (tgt := 3045) C.1 C.2.1 dL_law_40 (by rw [hx]; decide) (by rw [hx]; decide) (by rw [hx]; rfl) (by decide) ?_
  obtain ⟨r, τ', e1, e2, hR'⟩ := lo_finesPaid hR
  refine lv_aload_n C.1 C.2.1 dL_law_3045 rfl (lv_at hl 2 rfl) ?_
  refine lx_i C D I (As := []) (rest := []) (w11_finesPaid l Γ ax (AXs ax) σ r e1) mz_346 rfl ⟨Nat.le_of_ble_eq_true rfl, Nat.le_of_ble_eq_true rfl⟩ rfl (Nat.le_of_ble_eq_true rfl) hl.1 ⟨by omega, by omega⟩ dL_law_3046 (fun H1 locs1 I1 => ?_)
  refine lv_aload_n C.1 C.2.1 dL_law_3049 rfl (lv_at hl 3 rfl) ?_
  refine lm_i C D I1 (As := []) (rest := [.int r]) (w12_finesPaid l Γ am (AMs am) τ r τ' e2) mz_349 rfl ⟨Nat.le_of_ble_eq_true rfl, Nat.le_of_ble_eq_true rfl⟩ rfl (Nat.le_of_ble_eq_true rfl) hl.1 ⟨by omega, by omega⟩ dL_law_3050 (fun H2 locs2 I2 => ?_)
  refine lv_icmp_eq (tgt := 3262) C.1 C.2.1 dL_law_3053 (by decide) (fun _ => ?_) (fun h => absurd rfl h)
  refine W.widen (k := cells + 5) (n := slots + 30) (by omega) (by omega) ?_
  exact K _ _ _ _ _ _ I2 hR' hl
set_option maxHeartbeats 4000000 in
set_option maxRecDepth 100000 in
theorem lc_57 (C : LC l Γ p s m b L xs c) (D : LD s ax am o) (I : LI Γ s ax am o σ τ f H locs) (hR : Rl σ τ) {j : Nat} (hj : j + 6 ≤ L ∧ L ≤ 3072) (hl : lv_has ls 9 (LV b ax am o j)) (hcs : cells + 5 ≤ 601024 ∧ slots + 30 ≤ 7293034) {x : Int32} (hx : x.toInt = 57) (K : LK p l e s m b below meth c Γ ax am o Q cells slots j) : W p l e room_1 s m #[Value.ref b] below meth c H locs cells slots Q (F0 m 40 ls [.int x]) := by
  refine lv_tableIn (off := 3018) (tgt := 3058) C.1 C.2.1 dL_law_40 (by rw [hx]; decide) (by rw [hx]; decide) (by rw [hx]; rfl) (by decide) ?_
  obtain ⟨r, τ', e1, e2, hR'⟩ := lo_plucked hR
  refine lv_aload_n C.1 C.2.1 dL_law_3058 rfl (lv_at hl 2 rfl) ?_
  refine lx_i C D I (As := []) (rest := []) (w11_plucked l Γ ax (AXs ax) σ r e1) mz_350 rfl ⟨Nat.le_of_ble_eq_true rfl, Nat.le_of_ble_eq_true rfl⟩ rfl (Nat.le_of_ble_eq_true rfl) hl.1 ⟨by omega, by omega⟩ dL_law_3059 (fun H1 locs1 I1 => ?_)
  refine lv_aload_n C.1 C.2.1 dL_law_3062 rfl (lv_at hl 3 rfl) ?_
  refine lm_i C D I1 (As := []) (rest := [.int r]) (w12_plucked l Γ am (AMs am) τ r τ' e2) mz_353 rfl ⟨Nat.le_of_ble_eq_true rfl, Nat.le_of_ble_eq_true rfl⟩ rfl (Nat.le_of_ble_eq_true rfl) hl.1 ⟨by omega, by omega⟩ dL_law_3063 (fun H2 locs2 I2 => ?_)
  refine lv_icmp_eq (tgt := 3262) C.1 C.2.1 dL_law_3066 (by decide) (fun _ => ?_) (fun h => absurd rfl h)
  refine W.widen (k := cells + 5) (n := slots + 30) (by omega) (by omega) ?_
  exact K _ _ _ _ _ _ I2 hR' hl
set_option maxHeartbeats 4000000 in
set_option maxRecDepth 100000 in
theorem lc_58 (C : LC l Γ p s m b L xs c) (D : LD s ax am o) (I : LI Γ s ax am o σ τ f H locs) (hR : Rl σ τ) {j : Nat} (hj : j + 6 ≤ L ∧ L ≤ 3072) (hl : lv_has ls 9 (LV b ax am o j)) (hcs : cells + 5 ≤ 601024 ∧ slots + 30 ≤ 7293034) {x : Int32} (hx : x.toInt = 58) (K : LK p l e s m b below meth c Γ ax am o Q cells slots j) : W p l e room_1 s m #[Value.ref b] below meth c H locs cells slots Q (F0 m 40 ls [.int x]) := by
  refine lv_tableIn (off := 3031) (tgt := 3071) C.1 C.2.1 dL_law_40 (by rw [hx]; decide) (by rw [hx]; decide) (by rw [hx]; rfl) (by decide) ?_
  obtain ⟨r, τ', e1, e2, hR'⟩ := lo_alarms hR
  refine lv_aload_n C.1 C.2.1 dL_law_3071 rfl (lv_at hl 2 rfl) ?_
  refine lx_i C D I (As := []) (rest := []) (w11_alarms l Γ ax (AXs ax) σ r e1) mz_354 rfl ⟨Nat.le_of_ble_eq_true rfl, Nat.le_of_ble_eq_true rfl⟩ rfl (Nat.le_of_ble_eq_true rfl) hl.1 ⟨by omega, by omega⟩ dL_law_3072 (fun H1 locs1 I1 => ?_)
  refine lv_aload_n C.1 C.2.1 dL_law_3075 rfl (lv_at hl 3 rfl) ?_
  refine lm_i C D I1 (As := []) (rest := [.int r]) (w12_alarms l Γ am (AMs am) τ r τ' e2) mz_357 rfl ⟨Nat.le_of_ble_eq_true rfl, Nat.le_of_ble_eq_true rfl⟩ rfl (Nat.le_of_ble_eq_true rfl) hl.1 ⟨by omega, by omega⟩ dL_law_3076 (fun H2 locs2 I2 => ?_)
  refine lv_icmp_eq (tgt := 3262) C.1 C.2.1 dL_law_3079 (by decide) (fun _ => ?_) (fun h => absurd rfl h)
  refine W.widen (k := cells + 5) (n := slots + 30) (by omega) (by omega) ?_
  exact K _ _ _ _ _ _ I2 hR' hl
set_option maxHeartbeats 4000000 in
set_option maxRecDepth 100000 in
theorem lc_59 (C : LC l Γ p s m b L xs c) (D : LD s ax am o) (I : LI Γ s ax am o σ τ f H locs) (hR : Rl σ τ) {j : Nat} (hj : j + 6 ≤ L ∧ L ≤ 3072) (hl : lv_has ls 9 (LV b ax am o j)) (hcs : cells + 5 ≤ 601024 ∧ slots + 30 ≤ 7293034) {x : Int32} (hx : x.toInt = 59) (K : LK p l e s m b below meth c Γ ax am o Q cells slots j) : W p l e room_1 s m #[Value.ref b] below meth c H locs cells slots Q (F0 m 40 ls [.int x]) := by
  refine lv_tableIn (off := 3044) (tgt := 3084) C.1 C.2.1 dL_law_40 (by rw [hx]; decide) (by rw [hx]; decide) (by rw [hx]; rfl) (by decide) ?_
  obtain ⟨r, τ', e1, e2, hR'⟩ := lo_visitsPerDay hR
  refine lv_aload_n C.1 C.2.1 dL_law_3084 rfl (lv_at hl 2 rfl) ?_
  refine lx_d C D I (As := []) (rest := []) (w11_visitsPerDay l Γ ax (AXs ax) σ r e1) mz_358 rfl ⟨Nat.le_of_ble_eq_true rfl, Nat.le_of_ble_eq_true rfl⟩ rfl (Nat.le_of_ble_eq_true rfl) hl.1 ⟨by omega, by omega⟩ dL_law_3085 (fun H1 locs1 I1 => ?_)
  obtain ⟨v, hv⟩ : ∃ v, v = r := ⟨_, rfl⟩
  rw [← hv]
  refine lv_dstore (lv' := (5, .double v) :: LV b ax am o j) C.1 C.2.1 dL_law_3088 hl (by decide) rfl (fun ls hl => ?_)
  refine lv_aload_n C.1 C.2.1 dL_law_3090 rfl (lv_at hl 4 rfl) ?_
  refine lm_d C D I1 (As := []) (rest := []) (w12_visitsPerDay l Γ am (AMs am) τ r τ' e2) mz_362 rfl ⟨Nat.le_of_ble_eq_true rfl, Nat.le_of_ble_eq_true rfl⟩ rfl (Nat.le_of_ble_eq_true rfl) hl.1 ⟨by omega, by omega⟩ dL_law_3091 (fun H2 locs2 I2 => ?_)
  rw [← hv]
  refine lv_dstore (lv' := (7, .double v) :: (5, .double v) :: LV b ax am o j) C.1 C.2.1 dL_law_3094 hl (by decide) rfl (fun ls hl => ?_)
  refine lv_dload C.1 C.2.1 dL_law_3096 (lv_at hl 1 rfl) ?_
  refine lv_dload C.1 C.2.1 dL_law_3098 (lv_at hl 0 rfl) ?_
  refine lv_dcmp C.1 C.2.1 dL_law_3100 ?_
  obtain ⟨z, hz⟩ : ∃ z, z = Op.cmpValue (FP.dcmp v v) CmpOp.l := ⟨_, rfl⟩
  rw [← hz]
  refine lv_if_eq (tgt := 3122) C.1 C.2.1 dL_law_3101 (by decide) (fun _ => (by refine lv_goto (tgt := 3262) C.1 C.2.1 dL_law_3122 (by decide) ?_; refine W.widen (k := cells + 5) (n := slots + 30) (by omega) (by omega) ?_; exact K _ _ _ _ _ _ I2 hR' (lv_sub hl [2, 3, 4, 5, 6] rfl))) (fun h0 => ?_)
  refine lv_dload C.1 C.2.1 dL_law_3104 (lv_at hl 1 rfl) ?_
  refine lv_dload C.1 C.2.1 dL_law_3106 (lv_at hl 1 rfl) ?_
  refine lv_dcmp C.1 C.2.1 dL_law_3108 ?_
  rw [← hz]
  refine lv_if_eq (tgt := 3120) C.1 C.2.1 dL_law_3109 (by decide) (fun h => absurd h h0) (fun _ => ?_)
  refine lv_dload C.1 C.2.1 dL_law_3112 (lv_at hl 0 rfl) ?_
  refine lv_dload C.1 C.2.1 dL_law_3114 (lv_at hl 0 rfl) ?_
  refine lv_dcmp C.1 C.2.1 dL_law_3116 ?_
  rw [← hz]
  refine lv_if_ne (tgt := 3122) C.1 C.2.1 dL_law_3117 (by decide) (fun _ => (by refine lv_goto (tgt := 3262) C.1 C.2.1 dL_law_3122 (by decide) ?_; refine W.widen (k := cells + 5) (n := slots + 30) (by omega) (by omega) ?_; exact K _ _ _ _ _ _ I2 hR' (lv_sub hl [2, 3, 4, 5, 6] rfl))) (fun h => absurd h h0)
set_option maxHeartbeats 4000000 in
set_option maxRecDepth 100000 in
theorem lc_60 (C : LC l Γ p s m b L xs c) (D : LD s ax am o) (I : LI Γ s ax am o σ τ f H locs) (hR : Rl σ τ) {j : Nat} (hj : j + 6 ≤ L ∧ L ≤ 3072) (hl : lv_has ls 9 (LV b ax am o j)) (hcs : cells + 5 ≤ 601024 ∧ slots + 30 ≤ 7293034) {x : Int32} (hx : x.toInt = 60) (K : LK p l e s m b below meth c Γ ax am o Q cells slots j) : W p l e room_1 s m #[Value.ref b] below meth c H locs cells slots Q (F0 m 40 ls [.int x]) := by
  refine lv_tableIn (off := 3085) (tgt := 3125) C.1 C.2.1 dL_law_40 (by rw [hx]; decide) (by rw [hx]; decide) (by rw [hx]; rfl) (by decide) ?_
  obtain ⟨r, τ', e1, e2, hR', hn'⟩ := lo_blockedShare hR
  refine lv_aload_n C.1 C.2.1 dL_law_3125 rfl (lv_at hl 2 rfl) ?_
  refine lx_f C D I (As := []) (rest := []) (w11_blockedShare l Γ ax (AXs ax) σ r e1) mz_363 rfl ⟨Nat.le_of_ble_eq_true rfl, Nat.le_of_ble_eq_true rfl⟩ rfl (Nat.le_of_ble_eq_true rfl) hl.1 ⟨by omega, by omega⟩ dL_law_3126 (fun H1 locs1 I1 => ?_)
  refine lv_f2d C.1 C.2.1 dL_law_3129 hn' ?_
  obtain ⟨v, hv⟩ : ∃ v, v = FP.f2d r := ⟨_, rfl⟩
  rw [← hv]
  refine lv_dstore (lv' := (5, .double v) :: LV b ax am o j) C.1 C.2.1 dL_law_3130 hl (by decide) rfl (fun ls hl => ?_)
  refine lv_aload_n C.1 C.2.1 dL_law_3132 rfl (lv_at hl 4 rfl) ?_
  refine lm_f C D I1 (As := []) (rest := []) (w12_blockedShare l Γ am (AMs am) τ r τ' e2) mz_367 rfl ⟨Nat.le_of_ble_eq_true rfl, Nat.le_of_ble_eq_true rfl⟩ rfl (Nat.le_of_ble_eq_true rfl) hl.1 ⟨by omega, by omega⟩ dL_law_3133 (fun H2 locs2 I2 => ?_)
  refine lv_f2d C.1 C.2.1 dL_law_3136 hn' ?_
  rw [← hv]
  refine lv_dstore (lv' := (7, .double v) :: (5, .double v) :: LV b ax am o j) C.1 C.2.1 dL_law_3137 hl (by decide) rfl (fun ls hl => ?_)
  refine lv_dload C.1 C.2.1 dL_law_3139 (lv_at hl 1 rfl) ?_
  refine lv_dload C.1 C.2.1 dL_law_3141 (lv_at hl 0 rfl) ?_
  refine lv_dcmp C.1 C.2.1 dL_law_3143 ?_
  obtain ⟨z, hz⟩ : ∃ z, z = Op.cmpValue (FP.dcmp v v) CmpOp.l := ⟨_, rfl⟩
  rw [← hz]
  refine lv_if_eq (tgt := 3165) C.1 C.2.1 dL_law_3144 (by decide) (fun _ => (by refine lv_goto (tgt := 3262) C.1 C.2.1 dL_law_3165 (by decide) ?_; refine W.widen (k := cells + 5) (n := slots + 30) (by omega) (by omega) ?_; exact K _ _ _ _ _ _ I2 hR' (lv_sub hl [2, 3, 4, 5, 6] rfl))) (fun h0 => ?_)
  refine lv_dload C.1 C.2.1 dL_law_3147 (lv_at hl 1 rfl) ?_
  refine lv_dload C.1 C.2.1 dL_law_3149 (lv_at hl 1 rfl) ?_
  refine lv_dcmp C.1 C.2.1 dL_law_3151 ?_
  rw [← hz]
  refine lv_if_eq (tgt := 3163) C.1 C.2.1 dL_law_3152 (by decide) (fun h => absurd h h0) (fun _ => ?_)
  refine lv_dload C.1 C.2.1 dL_law_3155 (lv_at hl 0 rfl) ?_
  refine lv_dload C.1 C.2.1 dL_law_3157 (lv_at hl 0 rfl) ?_
  refine lv_dcmp C.1 C.2.1 dL_law_3159 ?_
  rw [← hz]
  refine lv_if_ne (tgt := 3165) C.1 C.2.1 dL_law_3160 (by decide) (fun _ => (by refine lv_goto (tgt := 3262) C.1 C.2.1 dL_law_3165 (by decide) ?_; refine W.widen (k := cells + 5) (n := slots + 30) (by omega) (by omega) ?_; exact K _ _ _ _ _ _ I2 hR' (lv_sub hl [2, 3, 4, 5, 6] rfl))) (fun h => absurd h h0)
set_option maxHeartbeats 4000000 in
set_option maxRecDepth 100000 in
theorem lc_61 (C : LC l Γ p s m b L xs c) (D : LD s ax am o) (I : LI Γ s ax am o σ τ f H locs) (hR : Rl σ τ) {j : Nat} (hj : j + 6 ≤ L ∧ L ≤ 3072) (hl : lv_has ls 9 (LV b ax am o j)) (hcs : cells + 5 ≤ 601024 ∧ slots + 30 ≤ 7293034) {x : Int32} (hx : x.toInt = 61) (K : LK p l e s m b below meth c Γ ax am o Q cells slots j) : W p l e room_1 s m #[Value.ref b] below meth c H locs cells slots Q (F0 m 40 ls [.int x]) := by
  refine lv_tableIn (off := 3128) (tgt := 3168) C.1 C.2.1 dL_law_40 (by rw [hx]; decide) (by rw [hx]; decide) (by rw [hx]; rfl) (by decide) ?_
  obtain ⟨r, τ', e1, e2, hR'⟩ := lo_violations hR
  refine lv_aload_n C.1 C.2.1 dL_law_3168 rfl (lv_at hl 2 rfl) ?_
  refine lx_i C D I (As := []) (rest := []) (w11_violations l Γ ax (AXs ax) σ r e1) mz_368 rfl ⟨Nat.le_of_ble_eq_true rfl, Nat.le_of_ble_eq_true rfl⟩ rfl (Nat.le_of_ble_eq_true rfl) hl.1 ⟨by omega, by omega⟩ dL_law_3169 (fun H1 locs1 I1 => ?_)
  refine lv_aload_n C.1 C.2.1 dL_law_3172 rfl (lv_at hl 3 rfl) ?_
  refine lm_i C D I1 (As := []) (rest := [.int r]) (w12_violations l Γ am (AMs am) τ r τ' e2) mz_371 rfl ⟨Nat.le_of_ble_eq_true rfl, Nat.le_of_ble_eq_true rfl⟩ rfl (Nat.le_of_ble_eq_true rfl) hl.1 ⟨by omega, by omega⟩ dL_law_3173 (fun H2 locs2 I2 => ?_)
  refine lv_icmp_eq (tgt := 3262) C.1 C.2.1 dL_law_3176 (by decide) (fun _ => ?_) (fun h => absurd rfl h)
  refine W.widen (k := cells + 5) (n := slots + 30) (by omega) (by omega) ?_
  exact K _ _ _ _ _ _ I2 hR' hl
set_option maxHeartbeats 4000000 in
set_option maxRecDepth 100000 in
theorem lc_62 (C : LC l Γ p s m b L xs c) (D : LD s ax am o) (I : LI Γ s ax am o σ τ f H locs) (hR : Rl σ τ) {j : Nat} (hj : j + 6 ≤ L ∧ L ≤ 3072) (hl : lv_has ls 9 (LV b ax am o j)) (hcs : cells + 5 ≤ 601024 ∧ slots + 30 ≤ 7293034) {x : Int32} (hx : x.toInt = 62) (K : LK p l e s m b below meth c Γ ax am o Q cells slots j) : W p l e room_1 s m #[Value.ref b] below meth c H locs cells slots Q (F0 m 40 ls [.int x]) := by
  have hcs5 : cells + 5 ≤ 601024 ∧ slots + 30 ≤ 7293034 := hcs
  refine lv_tableIn (off := 3141) (tgt := 3181) C.1 C.2.1 dL_law_40 (by rw [hx]; decide) (by rw [hx]; decide) (by rw [hx]; rfl) (by decide) ?_
  obtain ⟨q, r, τ', e1, e2, hR', hc⟩ := lo_writePass (xs (j + 1)) hR
  refine lv_aload_n C.1 C.2.1 dL_law_3181 rfl (lv_at hl 2 rfl) ?_
  refine l_rd C I 1 (lv_at hl 1 rfl) (lv_at hl 0 rfl) hj (by decide) rfl dL_law_3182 dL_law_3183 dL_law_3185 dL_law_3186 dL_law_3187 ?_
  refine lv_aload_n C.1 C.2.1 dL_law_3188 rfl (lv_at hl 4 rfl) ?_
  refine lw_s C D I (As := [.ref (ax 0 0), .int (xs (j + 1)), .ref o]) (rest := []) (wL_writePass l (C.2.2.2.2.2.2.2.2.2.2.2) Γ ax o (xs (j + 1)) σ q e1 (by simpa using hq_of hc)) mz_372 ⟨Nat.le_of_ble_eq_true rfl, Nat.le_of_ble_eq_true rfl⟩ rfl (Nat.le_of_ble_eq_true rfl) hl.1 (by decide) hcs dL_law_3189 (fun k f1 H1 locs1 I1 hk => ?_)
  have he := th_eq (by decide) (by decide) hc hk
  refine lv_istore (lv' := (5, .int k) :: LV b ax am o j) C.1 C.2.1 dL_law_3192 hl (by decide) rfl (fun ls hl => ?_)
  refine lv_aload_n C.1 C.2.1 dL_law_3194 rfl (lv_at hl 4 rfl) ?_
  refine l_rd C I1 1 (lv_at hl 2 rfl) (lv_at hl 1 rfl) hj (by decide) rfl dL_law_3195 dL_law_3196 dL_law_3198 dL_law_3199 dL_law_3200 ?_
  refine lm_i C D I1 (As := [.int (xs (j + 1))]) (rest := []) (w12_writePass l Γ am (AMs am) (xs (j + 1)) τ r τ' e2) mz_374 rfl ⟨Nat.le_of_ble_eq_true rfl, Nat.le_of_ble_eq_true rfl⟩ rfl (Nat.le_of_ble_eq_true rfl) hl.1 hcs5 dL_law_3201 (fun H2 locs2 I2 => ?_)
  refine lv_istore (lv' := (6, .int r) :: (5, .int k) :: LV b ax am o j) C.1 C.2.1 dL_law_3204 hl (by decide) rfl (fun ls hl => ?_)
  refine lv_aload_n C.1 C.2.1 dL_law_3206 rfl (lv_at hl 5 rfl) ?_
  refine lm_i C D I2 (As := []) (rest := []) (w12_thrown l Γ am (AMs am) τ' (τ' 0 0 0) rfl) mz_161 rfl ⟨Nat.le_of_ble_eq_true rfl, Nat.le_of_ble_eq_true rfl⟩ rfl (Nat.le_of_ble_eq_true rfl) hl.1 hcs5 dL_law_3207 (fun H3 locs3 I3 => ?_)
  refine lv_iload C.1 C.2.1 dL_law_3210 (lv_at hl 1 rfl) ?_
  refine lv_icmp_eq (tgt := 3217) C.1 C.2.1 dL_law_3212 (by decide) (fun _ => ?_) (fun h => absurd he.1 h)
  refine lv_iload C.1 C.2.1 dL_law_3217 (lv_at hl 1 rfl) ?_
  refine lv_if_ne (tgt := 3234) C.1 C.2.1 dL_law_3219 (by decide) (fun _ => (by refine lv_goto (tgt := 3262) C.1 C.2.1 dL_law_3234 (by decide) ?_; exact K _ _ _ _ _ _ I3 hR' (lv_sub hl [2, 3, 4, 5, 6] rfl))) (fun h => ?_)
  obtain ⟨h1, h2, h3⟩ := he.2 h
  refine lv_aload_n C.1 C.2.1 dL_law_3222 rfl (lv_at hl 6 rfl) ?_
  refine lv_iconst (v := 0) C.1 C.2.1 dL_law_3223 (by decide) ?_
  refine va_lald C.1 C.2.1 C.2.2.2.2.2.1 (vaP1 I3.2.2.2) 0 5 rfl rfl vp01 dL_law_3224 ?_
  refine lv_iload C.1 C.2.1 dL_law_3225 (lv_at hl 0 rfl) ?_
  refine lv_i2l C.1 C.2.1 dL_law_3227 rfl ?_
  refine W.lcmp C.1 C.2.1 dL_law_3228 ?_
  refine lv_if_eq (tgt := 3234) C.1 C.2.1 dL_law_3229 (by decide) (fun _ => (by refine lv_goto (tgt := 3262) C.1 C.2.1 dL_law_3234 (by decide) ?_; exact K _ _ _ _ _ _ I3 hR' (lv_sub hl [2, 3, 4, 5, 6] rfl))) (fun h => absurd (lg0 (by rw [h2]; exact h3)) h)
set_option maxHeartbeats 4000000 in
set_option maxRecDepth 100000 in
theorem lc_63 (C : LC l Γ p s m b L xs c) (D : LD s ax am o) (I : LI Γ s ax am o σ τ f H locs) (hR : Rl σ τ) {j : Nat} (hj : j + 6 ≤ L ∧ L ≤ 3072) (hl : lv_has ls 9 (LV b ax am o j)) (hcs : cells + 5 ≤ 601024 ∧ slots + 30 ≤ 7293034) {x : Int32} (hx : x.toInt = 63) (K : LK p l e s m b below meth c Γ ax am o Q cells slots j) : W p l e room_1 s m #[Value.ref b] below meth c H locs cells slots Q (F0 m 40 ls [.int x]) := by
  refine lv_tableIn (off := 3197) (tgt := 3237) C.1 C.2.1 dL_law_40 (by rw [hx]; decide) (by rw [hx]; decide) (by rw [hx]; rfl) (by decide) ?_
  obtain ⟨r, τ', e1, e2, hR'⟩ := lo_reportByte (xs (j + 1)) hR
  refine lv_aload_n C.1 C.2.1 dL_law_3237 rfl (lv_at hl 2 rfl) ?_
  refine l_rd C I 1 (lv_at hl 1 rfl) (lv_at hl 0 rfl) hj (by decide) rfl dL_law_3238 dL_law_3239 dL_law_3241 dL_law_3242 dL_law_3243 ?_
  refine lx_i C D I (As := [.int (xs (j + 1))]) (rest := []) (w11_reportByte l Γ ax (AXs ax) (xs (j + 1)) σ r e1) mz_375 rfl ⟨Nat.le_of_ble_eq_true rfl, Nat.le_of_ble_eq_true rfl⟩ rfl (Nat.le_of_ble_eq_true rfl) hl.1 ⟨by omega, by omega⟩ dL_law_3244 (fun H1 locs1 I1 => ?_)
  refine lv_aload_n C.1 C.2.1 dL_law_3247 rfl (lv_at hl 3 rfl) ?_
  refine l_rd C I1 1 (lv_at hl 1 rfl) (lv_at hl 0 rfl) hj (by decide) rfl dL_law_3248 dL_law_3249 dL_law_3251 dL_law_3252 dL_law_3253 ?_
  refine lm_i C D I1 (As := [.int (xs (j + 1))]) (rest := [.int r]) (w12_reportByte l Γ am (AMs am) (xs (j + 1)) τ r τ' e2) mz_378 rfl ⟨Nat.le_of_ble_eq_true rfl, Nat.le_of_ble_eq_true rfl⟩ rfl (Nat.le_of_ble_eq_true rfl) hl.1 ⟨by omega, by omega⟩ dL_law_3254 (fun H2 locs2 I2 => ?_)
  refine lv_icmp_eq (tgt := 3262) C.1 C.2.1 dL_law_3257 (by decide) (fun _ => ?_) (fun h => absurd rfl h)
  refine W.widen (k := cells + 5) (n := slots + 30) (by omega) (by omega) ?_
  exact K _ _ _ _ _ _ I2 hR' hl
end LWC
