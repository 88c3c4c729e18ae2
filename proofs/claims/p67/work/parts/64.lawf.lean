/-! printed: the law's questions -/
def f13_isSound_b72 (rc15 : Int32 → Int32 → Int32 → Sig → Option (Int32 × Sig)) (rc37 : Int32 → Int32 → Int32 → Int32 → Int32 → Sig → Option (Int32 × Sig)) (x1 : Int32) (x2 : Int32) (x3 : Int32) (x5 : Int32) (t0 : Int32) (t1 : Int32) (σ : Sig) : Option (Int32 × Sig) :=
  nm (t0 + t1) fun v1 =>
  nm (x5 + 1) fun v2 =>
  rc37 x1 x2 x3 v1 v2 σ
def f13_isSound_b71 (rc15 : Int32 → Int32 → Int32 → Sig → Option (Int32 × Sig)) (rc37 : Int32 → Int32 → Int32 → Int32 → Int32 → Sig → Option (Int32 × Sig)) (x1 : Int32) (x2 : Int32) (x3 : Int32) (x5 : Int32) (t0 : Int32) (σ : Sig) : Option (Int32 × Sig) :=
  f13_isSound_b72 rc15 rc37 x1 x2 x3 x5 t0 0 σ
def f13_isSound_b232 (rc15 : Int32 → Int32 → Int32 → Sig → Option (Int32 × Sig)) (x1 : Int32) (x2 : Int32) (x3 : Int32) (x4 : Int32) (t0 : Int32) (t1 : Int32) (σ : Sig) : Option (Int32 × Sig) :=
  if t0 = t1 then
    bns (wn (f11_owed x3 σ)) fun v3 s4 =>
    if v3 < 0 then
      some (0, s4)
    else
      bns (wn (f11_refundOf x3 s4)) fun v5 s6 =>
      if v5 < 0 then
        some (0, s6)
      else
        bns (wn (f11_refundOf x3 s6)) fun v7 s8 =>
        nm ((2 : Int32) * v7) fun v9 =>
        bns (wn (f11_priceOf x3 s8)) fun v10 s11 =>
        if v10 < v9 then
          some (0, s11)
        else
          bns (wn (f11_ticksUntilReady x3 s11)) fun v12 s13 =>
          if (0 : Int32) ≤ v12 then
            nm (x2 + x4) fun v14 =>
            nm (x3 + 1) fun v15 =>
            rc15 x1 v14 v15 s13
          else
            some (0, s13)
  else
    some (0, σ)
def f13_isSound_b219 (rc15 : Int32 → Int32 → Int32 → Sig → Option (Int32 × Sig)) (x1 : Int32) (x2 : Int32) (x3 : Int32) (x4 : Int32) (t0 : Int32) (σ : Sig) : Option (Int32 × Sig) :=
  bns (wn (f11_visitsWith x3 σ)) fun v16 s17 =>
  if v16 = 0 then
    f13_isSound_b232 rc15 x1 x2 x3 x4 t0 1 s17
  else
    f13_isSound_b232 rc15 x1 x2 x3 x4 t0 0 s17
def f13_isSound_b155 (rc15 : Int32 → Int32 → Int32 → Sig → Option (Int32 × Sig)) (x1 : Int32) (x2 : Int32) (x3 : Int32) (x4 : Int32) (σ : Sig) : Option (Int32 × Sig) :=
  bns (wn (f11_lastDay x3 σ)) fun v18 s19 =>
  bns (wn (f11_firstDay x3 s19)) fun v20 s21 =>
  nm (v18 - v20) fun v22 =>
  nm (v22 + 1) fun v23 =>
  if v23 < 1 then
    some (0, s21)
  else
    if (14 : Int32) < v23 then
      some (0, s21)
    else
      bns (wn (f11_usedDays x3 s21)) fun v24 s25 =>
      if v23 < v24 then
        some (0, s25)
      else
        bns (wn (f11_usedDays x3 s25)) fun v26 s27 =>
        bns (wn (f11_visitsWith x3 s27)) fun v28 s29 =>
        if v28 < v26 then
          some (0, s29)
        else
          bns (wn (f11_usedDays x3 s29)) fun v30 s31 =>
          if v30 = 0 then
            f13_isSound_b219 rc15 x1 x2 x3 x4 1 s31
          else
            f13_isSound_b219 rc15 x1 x2 x3 x4 0 s31
def f13_isSound_b131 (rc15 : Int32 → Int32 → Int32 → Sig → Option (Int32 × Sig)) (x1 : Int32) (x2 : Int32) (x3 : Int32) (x4 : Int32) (x5 : Int32) (σ : Sig) : Option (Int32 × Sig) :=
  bns (wn (f11_isReturned x3 σ)) fun v32 s33 =>
  if v32 = 0 then
    f13_isSound_b155 rc15 x1 x2 x3 x4 s33
  else
    if x5 = (-1) then
      bns (wn (f11_refundOf x3 s33)) fun v34 s35 =>
      if v34 = 0 then
        f13_isSound_b155 rc15 x1 x2 x3 x4 s35
      else
        some (0, s35)
    else
      some (0, s33)
def f13_isSound_b101 (rc15 : Int32 → Int32 → Int32 → Sig → Option (Int32 × Sig)) (x1 : Int32) (x2 : Int32) (x3 : Int32) (x4 : Int32) (x5 : Int32) (t0 : Int32) (t1 : Int32) (σ : Sig) : Option (Int32 × Sig) :=
  if t0 = t1 then
    if x5 = (-1) then
      f13_isSound_b131 rc15 x1 x2 x3 x4 x5 σ
    else
      bns (wn (f11_passOf x5 σ)) fun v36 s37 =>
      if v36 = x3 then
        bns (wn (f11_isBlocked x5 s37)) fun v38 s39 =>
        if v38 = 0 then
          f13_isSound_b131 rc15 x1 x2 x3 x4 x5 s39
        else
          some (0, s39)
      else
        some (0, s37)
  else
    some (0, σ)
def f13_isSound_b37 (rc15 : Int32 → Int32 → Int32 → Sig → Option (Int32 × Sig)) : Nat → Int32 → Int32 → Int32 → Int32 → Int32 → Sig → Option (Int32 × Sig)
  | 0, _, _, _, _, _, _ => none
  | fu + 1, x1, x2, x3, x4, x5, σ =>
    bnd (f11_cardCount σ) fun v40 =>
    if v40 ≤ x5 then
      bns (wn (f11_cardOf x3 σ)) fun v41 s42 =>
      if v41 = (-1) then
        f13_isSound_b101 rc15 x1 x2 x3 x4 v41 x4 0 s42
      else
        f13_isSound_b101 rc15 x1 x2 x3 x4 v41 x4 1 s42
    else
      bns (wn (f11_passOf x5 σ)) fun v43 s44 =>
      if v43 = x3 then
        bns (wn (f11_isBlocked x5 s44)) fun v45 s46 =>
        if v45 = 0 then
          f13_isSound_b72 rc15 (f13_isSound_b37 rc15 fu) x1 x2 x3 x5 x4 1 s46
        else
          f13_isSound_b71 rc15 (f13_isSound_b37 rc15 fu) x1 x2 x3 x5 x4 s46
      else
        f13_isSound_b71 rc15 (f13_isSound_b37 rc15 fu) x1 x2 x3 x5 x4 s44
def f13_isSound_b386 (t0 : Int32) (t1 : Int32) (σ : Sig) : Option (Int32 × Sig) :=
  if t0 = t1 then
    some (1, σ)
  else
    some (0, σ)
def f13_isSound_b291 : Nat → Int32 → Int32 → Int32 → Sig → Option (Int32 × Sig)
  | 0, _, _, _, _ => none
  | fu + 1, x1, x2, x3, σ =>
    bnd (f11_bedCount σ) fun v47 =>
    if v47 ≤ x3 then
      if x1 = 0 then
        bnd (f11_cardCount σ) fun v48 =>
        if v48 < x2 then
          some (0, σ)
        else
          bnd (f11_finesPaid σ) fun v49 =>
          if v49 < 0 then
            some (0, σ)
          else
            bnd (f11_refunds σ) fun v50 =>
            if v50 < 0 then
              some (0, σ)
            else
              bnd (f11_ticksUntilOpen σ) fun v51 =>
              bnd (f11_isOpen σ) fun v52 =>
              if v52 = 0 then
                bnd (f11_ticksUntilOpen σ) fun v53 =>
                f13_isSound_b386 v51 v53 σ
              else
                f13_isSound_b386 v51 0 σ
      else
        some (0, σ)
    else
      bns (wn (f11_visitsTo x3 σ)) fun v54 s55 =>
      nm (x1 - v54) fun v56 =>
      bns (wn (f11_blooms x3 s55)) fun v57 s58 =>
      if v57 < 0 then
        some (0, s58)
      else
        bns (wn (f11_blooms x3 s58)) fun v59 s60 =>
        if (50 : Int32) < v59 then
          some (0, s60)
        else
          bns (wn (f11_placesLeft x3 s60)) fun v61 s62 =>
          if (0 : Int32) ≤ v61 then
            nm (x3 + 1) fun v63 =>
            f13_isSound_b291 fu v56 x2 v63 s62
          else
            some (0, s62)
def f13_isSound_b15 : Nat → Int32 → Int32 → Int32 → Sig → Option (Int32 × Sig)
  | 0, _, _, _, _ => none
  | fu + 1, x1, x2, x3, σ =>
    bnd (f11_passCount σ) fun v64 =>
    if v64 ≤ x3 then
      f13_isSound_b291 FU x1 x2 0 σ
    else
      bns (wn (f11_visitsWith x3 σ)) fun v65 s66 =>
      nm (x1 + v65) fun v67 =>
      f13_isSound_b37 (f13_isSound_b15 fu) FU v67 x2 x3 0 0 s66
def f13_isSound (σ : Sig) : Option (Int32 × Sig) :=
  bnd (f11_violations σ) fun v68 =>
  if v68 = 0 then
    f13_isSound_b15 FU 0 0 0 σ
  else
    some (0, σ)
def f13_isGuarded_b186 (x4 : Int32) (x5 : Int32) (x9 : Int32) (σ : Sig) : Option (Int32 × Sig) :=
  bns (f11_undo σ) fun v1 s2 =>
  if x9 = 0 then
    some (0, s2)
  else
    bns (wn (f11_visitsWith x4 s2)) fun v3 s4 =>
    if v3 = x5 then
      some (1, s4)
    else
      some (0, s4)
def f13_isGuarded_b183 (x4 : Int32) (x5 : Int32) (t0 : Int32) (t1 : Int32) (σ : Sig) : Option (Int32 × Sig) :=
  nm (t0 &&& t1) fun v5 =>
  f13_isGuarded_b186 x4 x5 v5 σ
def f13_isGuarded_b182 (x4 : Int32) (x5 : Int32) (t0 : Int32) (σ : Sig) : Option (Int32 × Sig) :=
  f13_isGuarded_b183 x4 x5 t0 0 σ
def f13_isGuarded_b118 (x1 : Int32) (x3 : Int32) (x4 : Int32) (x5 : Int32) (t0 : Int32) (σ : Sig) : Option (Int32 × Sig) :=
  if x3 = 0 then
    bnd (f11_isOpen σ) fun v6 =>
    if v6 = 0 then
      f13_isGuarded_b182 x4 x5 t0 σ
    else
      bns (wn (f11_isBlocked x1 σ)) fun v7 s8 =>
      if v7 = 0 then
        bnd (f11_day s8) fun v9 =>
        bns (wn (f11_firstDay x4 s8)) fun v10 s11 =>
        if v9 < v10 then
          f13_isGuarded_b182 x4 x5 t0 s11
        else
          bnd (f11_day s11) fun v12 =>
          bns (wn (f11_lastDay x4 s11)) fun v13 s14 =>
          if v13 < v12 then
            f13_isGuarded_b182 x4 x5 t0 s14
          else
            bns (wn (f11_owed x4 s14)) fun v15 s16 =>
            if (30 : Int32) < v15 then
              f13_isGuarded_b182 x4 x5 t0 s16
            else
              f13_isGuarded_b183 x4 x5 t0 1 s16
      else
        f13_isGuarded_b182 x4 x5 t0 s8
  else
    f13_isGuarded_b186 x4 x5 t0 σ
def f13_isGuarded_b117 (x1 : Int32) (x3 : Int32) (x4 : Int32) (x5 : Int32) (σ : Sig) : Option (Int32 × Sig) :=
  f13_isGuarded_b118 x1 x3 x4 x5 0 σ
def f13_isGuarded_b110 (x1 : Int32) (x3 : Int32) (x4 : Int32) (x5 : Int32) (t0 : Int32) (t1 : Int32) (σ : Sig) : Option (Int32 × Sig) :=
  if t0 = t1 then
    f13_isGuarded_b118 x1 x3 x4 x5 1 σ
  else
    f13_isGuarded_b117 x1 x3 x4 x5 σ
def f13_isGuarded_b89 (x1 : Int32) (x3 : Int32) (x4 : Int32) (x5 : Int32) (x7 : Int32) (t0 : Int32) (t1 : Int32) (σ : Sig) : Option (Int32 × Sig) :=
  if t0 = t1 then
    bnd (f11_alarms σ) fun v17 =>
    if x3 = 2 then
      nm (x7 + 1) fun v18 =>
      f13_isGuarded_b110 x1 x3 x4 x5 v17 v18 σ
    else
      f13_isGuarded_b110 x1 x3 x4 x5 v17 x7 σ
  else
    f13_isGuarded_b117 x1 x3 x4 x5 σ
def f13_isGuarded_b68 (x1 : Int32) (x2 : Int32) (x3 : Int32) (x4 : Int32) (x5 : Int32) (x6 : Int32) (x7 : Int32) (t0 : Int32) (t1 : Int32) (σ : Sig) : Option (Int32 × Sig) :=
  if t0 = t1 then
    bns (wn (f11_placesLeft x2 σ)) fun v19 s20 =>
    if x3 = 0 then
      nm (x6 - 1) fun v21 =>
      f13_isGuarded_b89 x1 x3 x4 x5 x7 v19 v21 s20
    else
      f13_isGuarded_b89 x1 x3 x4 x5 x7 v19 x6 s20
  else
    f13_isGuarded_b117 x1 x3 x4 x5 σ
def f13_isGuarded (p1 : Int32) (p2 : Int32) (σ : Sig) : Option (Int32 × Sig) :=
  bns (wn (f11_whyRefused p1 p2 σ)) fun v22 s23 =>
  bns (wn (f11_passOf p1 s23)) fun v24 s25 =>
  bns (wn (f11_visitsWith v24 s25)) fun v26 s27 =>
  bns (wn (f11_placesLeft p2 s27)) fun v28 s29 =>
  bnd (f11_alarms s29) fun v30 =>
  bns (wn (f11_visit p1 p2 s29)) fun v31 s32 =>
  if v31 = v22 then
    bns (wn (f11_visitsWith v24 s32)) fun v33 s34 =>
    if v22 = 0 then
      nm (v26 + 1) fun v35 =>
      f13_isGuarded_b68 p1 p2 v22 v24 v26 v28 v30 v33 v35 s34
    else
      f13_isGuarded_b68 p1 p2 v22 v24 v26 v28 v30 v33 v26 s34
  else
    f13_isGuarded_b117 p1 v22 v24 v26 s32
def f13_seen_b79 (rc34 : Int64 → Int32 → Sig → Option (Int64 × Sig)) (x3 : Int32) (tl0 : Int64) (t1 : Int32) (σ : Sig) : Option (Int64 × Sig) :=
  nm (Int32.toInt64 t1) fun z1 =>
  nm (tl0 + z1) fun z2 =>
  nm (x3 + 1) fun v3 =>
  rc34 z2 v3 σ
def f13_seen_b90 : Nat → Int64 → Int32 → Sig → Option (Int64 × Sig)
  | 0, _, _, _ => none
  | fu + 1, xl1, x3, σ =>
    bnd (f11_passCount σ) fun v4 =>
    if v4 ≤ x3 then
      some (xl1, σ)
    else
      nm ((31 : Int64) * xl1) fun z5 =>
      bns (wn (f11_refundOf x3 σ)) fun v6 s7 =>
      nm (Int32.toInt64 v6) fun z8 =>
      nm (z5 + z8) fun z9 =>
      bns (wn (f11_ticksUntilReady x3 s7)) fun v10 s11 =>
      nm ((7 : Int32) * v10) fun v12 =>
      nm (Int32.toInt64 v12) fun z13 =>
      nm (z9 + z13) fun z14 =>
      bns (wn (f11_owed x3 s11)) fun v15 s16 =>
      nm ((13 : Int32) * v15) fun v17 =>
      nm (Int32.toInt64 v17) fun z18 =>
      nm (z14 + z18) fun z19 =>
      nm (x3 + 1) fun v20 =>
      f13_seen_b90 fu z19 v20 s16
def f13_seen_b34 : Nat → Int64 → Int32 → Sig → Option (Int64 × Sig)
  | 0, _, _, _ => none
  | fu + 1, xl1, x3, σ =>
    bnd (f11_bedCount σ) fun v21 =>
    if v21 ≤ x3 then
      f13_seen_b90 FU xl1 0 σ
    else
      nm ((31 : Int64) * xl1) fun z22 =>
      bns (wn (f11_blooms x3 σ)) fun v23 s24 =>
      nm (Int32.toInt64 v23) fun z25 =>
      nm (z22 + z25) fun z26 =>
      bns (wn (f11_placesLeft x3 s24)) fun v27 s28 =>
      nm ((64 : Int32) * v27) fun v29 =>
      nm (Int32.toInt64 v29) fun z30 =>
      nm (z26 + z30) fun z31 =>
      bns (wn (f11_isInSeason x3 s28)) fun v32 s33 =>
      if v32 = 0 then
        f13_seen_b79 (f13_seen_b34 fu) x3 z31 0 s33
      else
        f13_seen_b79 (f13_seen_b34 fu) x3 z31 4096 s33
def f13_seen (σ : Sig) : Option (Int64 × Sig) :=
  bnd (f11_time σ) fun v34 =>
  nm (Int32.toInt64 v34) fun z35 =>
  bnd (f11_takings σ) fun v36 =>
  nm (Int32.toInt64 v36) fun z37 =>
  nm ((31 : Int64) * z37) fun z38 =>
  nm (z35 + z38) fun z39 =>
  bnd (f11_plucked σ) fun v40 =>
  nm (Int32.toInt64 v40) fun z41 =>
  nm ((961 : Int64) * z41) fun z42 =>
  nm (z39 + z42) fun z43 =>
  bnd (f11_alarms σ) fun v44 =>
  nm (Int32.toInt64 v44) fun z45 =>
  nm (z43 + z45) fun z46 =>
  f13_seen_b34 FU z46 0 σ
def f13_isAlike_b80 (xl3 : Int64) (t0 : Int32) (σ : Sig) : Option (Int32 × Sig) :=
  bns (f11_undo σ) fun v1 s2 =>
  if t0 = 0 then
    some (0, s2)
  else
    bnl (f13_seen s2) fun z3 s4 =>
    nm (lg_cmp z3 xl3) fun v5 =>
    if v5 = 0 then
      some (1, s4)
    else
      some (0, s4)
def f13_isAlike_b79 (xl3 : Int64) (σ : Sig) : Option (Int32 × Sig) :=
  f13_isAlike_b80 xl3 0 σ
def f13_isAlike (p1 : Int32) (p2 : Int32) (σ : Sig) : Option (Int32 × Sig) :=
  bnl (f13_seen σ) fun z6 s7 =>
  bns (wn (f11_pass p1 s7)) fun v8 s9 =>
  bns (wn (f11_pass p2 s9)) fun v10 s11 =>
  if v8 = (-7777) then
    some (0, s11)
  else
    if v10 = (-7777) then
      some (0, s11)
    else
      bnl (f13_seen s11) fun z12 s13 =>
      bns (f11_undo s13) fun v14 s15 =>
      bns (f11_undo s15) fun v16 s17 =>
      nm (p1 + p2) fun v18 =>
      bns (wn (f11_pass v18 s17)) fun v19 s20 =>
      if v19 = v10 then
        bnl (f13_seen s20) fun z21 s22 =>
        nm (lg_cmp z21 z12) fun v23 =>
        if v23 = 0 then
          f13_isAlike_b80 z6 1 s22
        else
          f13_isAlike_b79 z6 s22
      else
        f13_isAlike_b79 z6 s20
set_option maxHeartbeats 4000000 in
set_option maxRecDepth 100000 in
theorem w13_isSound (l : Launch) (Γ : Wc) (ad : Nat → Nat → Nat) (A : Nat → Prop)  (σ : Sig) (r : Int32) (σ1 : Sig) (hF : f13_isSound  σ = some (r, σ1)) : MI l SX Γ ad A yL_isSound cL_isSound 7 (some .boolean) 9 154 [.ref (ad 0 0)] σ r σ1 := by
  refine MI.of (by decide) (Nat.le_of_ble_eq_true rfl) ?_
  intro p e s m args below meth c ls cx hr hk hP hl
  have hl : lv_has ls 7 [(0, .ref (ad 0 0))] := hl
  rw [f13_isSound] at hF
  generalize hH0 : s.heap = H0 at hP ⊢
  generalize ([] : List Loc) = locs0 at hP ⊢
  clear hH0
  have b72 : ∀ (rc15 : Int32 → Int32 → Int32 → Sig → Option (Int32 × Sig)) (ih15 : ∀ (x1 : Int32) (x2 : Int32) (x3 : Int32) (σ : Sig) (H : Heap) (locs : List Loc) (ls : Array Slot), PS SX Γ ad A s σ H locs → lv_has ls 7 [(0, .ref (ad 0 0)), (1, .int x1), (2, .int x2), (3, .int x3)] → rc15 x1 x2 x3 σ = some (r, σ1) → W p l e (rmz 9 154) s m args below meth c H locs 0 0 (QI SX Γ ad A below args s r σ1) (F0 m 15 ls [])) (rc37 : Int32 → Int32 → Int32 → Int32 → Int32 → Sig → Option (Int32 × Sig)) (ih37 : ∀ (x1 : Int32) (x2 : Int32) (x3 : Int32) (x4 : Int32) (x5 : Int32) (σ : Sig) (H : Heap) (locs : List Loc) (ls : Array Slot), PS SX Γ ad A s σ H locs → lv_has ls 7 [(0, .ref (ad 0 0)), (1, .int x1), (2, .int x2), (3, .int x3), (4, .int x4), (5, .int x5)] → rc37 x1 x2 x3 x4 x5 σ = some (r, σ1) → W p l e (rmz 9 154) s m args below meth c H locs 0 0 (QI SX Γ ad A below args s r σ1) (F0 m 37 ls [])) (x1 : Int32) (x2 : Int32) (x3 : Int32) (x5 : Int32) (t0 : Int32) (t1 : Int32) (σ : Sig) (H : Heap) (locs : List Loc) (ls : Array Slot), PS SX Γ ad A s σ H locs → lv_has ls 7 [(0, .ref (ad 0 0)), (1, .int x1), (2, .int x2), (3, .int x3), (5, .int x5)] → f13_isSound_b72 rc15 rc37 x1 x2 x3 x5 t0 t1 σ = some (r, σ1) → W p l e (rmz 9 154) s m args below meth c H locs 0 0 (QI SX Γ ad A below args s r σ1) (F0 m 72 ls [.int t1, .int t0]) := by
    intro rc15 ih15 rc37 ih37 x1 x2 x3 x5 t0 t1 σ H locs ls hP hl hF
    rw [f13_isSound_b72] at hF
    refine r_iadd cx dL_isSound_72 hF (fun v1 hF => ?_)
    refine r_istore cx [(4, .int v1), (0, .ref (ad 0 0)), (1, .int x1), (2, .int x2), (3, .int x3), (5, .int x5)] dL_isSound_73 hl (by decide) rfl (fun ls hl => ?_)
    refine r_iinc cx (k := 5) (w := 1) (fun v2 => [(5, .int v2), (4, .int v1), (0, .ref (ad 0 0)), (1, .int x1), (2, .int x2), (3, .int x3)]) dL_isSound_75 hl rfl (by decide) (by decide) hF (fun _ => rfl) (fun v2 ls hF hl => ?_)
    refine r_goto cx 37 dL_isSound_78 (by decide) ?_
    exact ih37 x1 x2 x3 v1 v2 σ _ _ _ hP (lv_sub hl [2, 3, 4, 5, 1, 0] rfl) hF
  have b71 : ∀ (rc15 : Int32 → Int32 → Int32 → Sig → Option (Int32 × Sig)) (ih15 : ∀ (x1 : Int32) (x2 : Int32) (x3 : Int32) (σ : Sig) (H : Heap) (locs : List Loc) (ls : Array Slot), PS SX Γ ad A s σ H locs → lv_has ls 7 [(0, .ref (ad 0 0)), (1, .int x1), (2, .int x2), (3, .int x3)] → rc15 x1 x2 x3 σ = some (r, σ1) → W p l e (rmz 9 154) s m args below meth c H locs 0 0 (QI SX Γ ad A below args s r σ1) (F0 m 15 ls [])) (rc37 : Int32 → Int32 → Int32 → Int32 → Int32 → Sig → Option (Int32 × Sig)) (ih37 : ∀ (x1 : Int32) (x2 : Int32) (x3 : Int32) (x4 : Int32) (x5 : Int32) (σ : Sig) (H : Heap) (locs : List Loc) (ls : Array Slot), PS SX Γ ad A s σ H locs → lv_has ls 7 [(0, .ref (ad 0 0)), (1, .int x1), (2, .int x2), (3, .int x3), (4, .int x4), (5, .int x5)] → rc37 x1 x2 x3 x4 x5 σ = some (r, σ1) → W p l e (rmz 9 154) s m args below meth c H locs 0 0 (QI SX Γ ad A below args s r σ1) (F0 m 37 ls [])) (x1 : Int32) (x2 : Int32) (x3 : Int32) (x5 : Int32) (t0 : Int32) (σ : Sig) (H : Heap) (locs : List Loc) (ls : Array Slot), PS SX Γ ad A s σ H locs → lv_has ls 7 [(0, .ref (ad 0 0)), (1, .int x1), (2, .int x2), (3, .int x3), (5, .int x5)] → f13_isSound_b71 rc15 rc37 x1 x2 x3 x5 t0 σ = some (r, σ1) → W p l e (rmz 9 154) s m args below meth c H locs 0 0 (QI SX Γ ad A below args s r σ1) (F0 m 71 ls [.int t0]) := by
    intro rc15 ih15 rc37 ih37 x1 x2 x3 x5 t0 σ H locs ls hP hl hF
    rw [f13_isSound_b71] at hF
    refine r_iconst cx 0 dL_isSound_71 (by decide) ?_
    exact b72 rc15 ih15 rc37 ih37 x1 x2 x3 x5 t0 0 σ _ _ _ hP (lv_sub hl [0, 1, 2, 3, 4] rfl) hF
  have b232 : ∀ (rc15 : Int32 → Int32 → Int32 → Sig → Option (Int32 × Sig)) (ih15 : ∀ (x1 : Int32) (x2 : Int32) (x3 : Int32) (σ : Sig) (H : Heap) (locs : List Loc) (ls : Array Slot), PS SX Γ ad A s σ H locs → lv_has ls 7 [(0, .ref (ad 0 0)), (1, .int x1), (2, .int x2), (3, .int x3)] → rc15 x1 x2 x3 σ = some (r, σ1) → W p l e (rmz 9 154) s m args below meth c H locs 0 0 (QI SX Γ ad A below args s r σ1) (F0 m 15 ls [])) (x1 : Int32) (x2 : Int32) (x3 : Int32) (x4 : Int32) (t0 : Int32) (t1 : Int32) (σ : Sig) (H : Heap) (locs : List Loc) (ls : Array Slot), PS SX Γ ad A s σ H locs → lv_has ls 7 [(0, .ref (ad 0 0)), (1, .int x1), (2, .int x2), (3, .int x3), (4, .int x4)] → f13_isSound_b232 rc15 x1 x2 x3 x4 t0 t1 σ = some (r, σ1) → W p l e (rmz 9 154) s m args below meth c H locs 0 0 (QI SX Γ ad A below args s r σ1) (F0 m 232 ls [.int t1, .int t0]) := by
    intro rc15 ih15 x1 x2 x3 x4 t0 t1 σ H locs ls hP hl hF
    rw [f13_isSound_b232] at hF
    refine r_icmp_eq cx 237 dL_isSound_232 (by decide) hF (fun hF => ?_) (fun hF => ?_)
    · refine r_aload_n cx dL_isSound_237 (lv_at hl 0 rfl) ?_
      refine r_iload_n cx dL_isSound_238 (lv_at hl 3 rfl) ?_
      obtain ⟨v3, s4, hc, hF⟩ := bns_some hF
      refine r_callWi cx hP (As := [.ref (ad 0 0), .int x3]) (wn_owed l Γ ad A x3 σ v3 s4 (wn_some hc)) mz13_261 ⟨Nat.le_of_ble_eq_true rfl, Nat.le_of_ble_eq_true rfl⟩ rfl (Nat.le_of_ble_eq_true rfl) hl.1 ⟨Nat.zero_le _, Nat.zero_le _⟩ dL_isSound_239 (fun H locs hP => ?_)
      refine r_if_lt cx 276 dL_isSound_242 (by decide) hF (fun hF => ?_) (fun hF => ?_)
      · refine r_iconst cx 0 dL_isSound_276 (by decide) ?_
        exact r_zret cx hP hr hk (by decide) dL_isSound_277 hF
      · refine r_aload_n cx dL_isSound_245 (lv_at hl 0 rfl) ?_
        refine r_iload_n cx dL_isSound_246 (lv_at hl 3 rfl) ?_
        obtain ⟨v5, s6, hc, hF⟩ := bns_some hF
        refine r_callWi cx hP (As := [.ref (ad 0 0), .int x3]) (wn_refundOf l Γ ad A x3 s4 v5 s6 (wn_some hc)) mz13_253 ⟨Nat.le_of_ble_eq_true rfl, Nat.le_of_ble_eq_true rfl⟩ rfl (Nat.le_of_ble_eq_true rfl) hl.1 ⟨Nat.zero_le _, Nat.zero_le _⟩ dL_isSound_247 (fun H locs hP => ?_)
        refine r_if_lt cx 276 dL_isSound_250 (by decide) hF (fun hF => ?_) (fun hF => ?_)
        · refine r_iconst cx 0 dL_isSound_276 (by decide) ?_
          exact r_zret cx hP hr hk (by decide) dL_isSound_277 hF
        · refine r_iconst cx 2 dL_isSound_253 (by decide) ?_
          refine r_aload_n cx dL_isSound_254 (lv_at hl 0 rfl) ?_
          refine r_iload_n cx dL_isSound_255 (lv_at hl 3 rfl) ?_
          obtain ⟨v7, s8, hc, hF⟩ := bns_some hF
          refine r_callWi cx hP (As := [.ref (ad 0 0), .int x3]) (wn_refundOf l Γ ad A x3 s6 v7 s8 (wn_some hc)) mz13_253 ⟨Nat.le_of_ble_eq_true rfl, Nat.le_of_ble_eq_true rfl⟩ rfl (Nat.le_of_ble_eq_true rfl) hl.1 ⟨Nat.zero_le _, Nat.zero_le _⟩ dL_isSound_256 (fun H locs hP => ?_)
          refine r_imul cx dL_isSound_259 hF (fun v9 hF => ?_)
          refine r_aload_n cx dL_isSound_260 (lv_at hl 0 rfl) ?_
          refine r_iload_n cx dL_isSound_261 (lv_at hl 3 rfl) ?_
          obtain ⟨v10, s11, hc, hF⟩ := bns_some hF
          refine r_callWi cx hP (As := [.ref (ad 0 0), .int x3]) (wn_priceOf l Γ ad A x3 s8 v10 s11 (wn_some hc)) mz13_263 ⟨Nat.le_of_ble_eq_true rfl, Nat.le_of_ble_eq_true rfl⟩ rfl (Nat.le_of_ble_eq_true rfl) hl.1 ⟨Nat.zero_le _, Nat.zero_le _⟩ dL_isSound_262 (fun H locs hP => ?_)
          refine r_icmp_gt cx 276 dL_isSound_265 (by decide) hF (fun hF => ?_) (fun hF => ?_)
          · refine r_iconst cx 0 dL_isSound_276 (by decide) ?_
            exact r_zret cx hP hr hk (by decide) dL_isSound_277 hF
          · refine r_aload_n cx dL_isSound_268 (lv_at hl 0 rfl) ?_
            refine r_iload_n cx dL_isSound_269 (lv_at hl 3 rfl) ?_
            obtain ⟨v12, s13, hc, hF⟩ := bns_some hF
            refine r_callWi cx hP (As := [.ref (ad 0 0), .int x3]) (wn_ticksUntilReady l Γ ad A x3 s11 v12 s13 (wn_some hc)) mz13_265 ⟨Nat.le_of_ble_eq_true rfl, Nat.le_of_ble_eq_true rfl⟩ rfl (Nat.le_of_ble_eq_true rfl) hl.1 ⟨Nat.zero_le _, Nat.zero_le _⟩ dL_isSound_270 (fun H locs hP => ?_)
            refine r_if_ge cx 278 dL_isSound_273 (by decide) hF (fun hF => ?_) (fun hF => ?_)
            · refine r_iload_n cx dL_isSound_278 (lv_at hl 2 rfl) ?_
              refine r_iload cx dL_isSound_279 (lv_at hl 4 rfl) ?_
              refine r_iadd cx dL_isSound_281 hF (fun v14 hF => ?_)
              refine r_istore_n cx [(2, .int v14), (0, .ref (ad 0 0)), (1, .int x1), (3, .int x3), (4, .int x4)] dL_isSound_282 hl (by decide) rfl (fun ls hl => ?_)
              refine r_iinc cx (k := 3) (w := 1) (fun v15 => [(3, .int v15), (2, .int v14), (0, .ref (ad 0 0)), (1, .int x1), (4, .int x4)]) dL_isSound_283 hl rfl (by decide) (by decide) hF (fun _ => rfl) (fun v15 ls hF hl => ?_)
              refine r_goto cx 15 dL_isSound_286 (by decide) ?_
              exact ih15 x1 v14 v15 s13 _ _ _ hP (lv_sub hl [2, 3, 1, 0] rfl) hF
            · refine r_iconst cx 0 dL_isSound_276 (by decide) ?_
              exact r_zret cx hP hr hk (by decide) dL_isSound_277 hF
    · refine r_iconst cx 0 dL_isSound_235 (by decide) ?_
      exact r_zret cx hP hr hk (by decide) dL_isSound_236 hF
  have b219 : ∀ (rc15 : Int32 → Int32 → Int32 → Sig → Option (Int32 × Sig)) (ih15 : ∀ (x1 : Int32) (x2 : Int32) (x3 : Int32) (σ : Sig) (H : Heap) (locs : List Loc) (ls : Array Slot), PS SX Γ ad A s σ H locs → lv_has ls 7 [(0, .ref (ad 0 0)), (1, .int x1), (2, .int x2), (3, .int x3)] → rc15 x1 x2 x3 σ = some (r, σ1) → W p l e (rmz 9 154) s m args below meth c H locs 0 0 (QI SX Γ ad A below args s r σ1) (F0 m 15 ls [])) (x1 : Int32) (x2 : Int32) (x3 : Int32) (x4 : Int32) (t0 : Int32) (σ : Sig) (H : Heap) (locs : List Loc) (ls : Array Slot), PS SX Γ ad A s σ H locs → lv_has ls 7 [(0, .ref (ad 0 0)), (1, .int x1), (2, .int x2), (3, .int x3), (4, .int x4)] → f13_isSound_b219 rc15 x1 x2 x3 x4 t0 σ = some (r, σ1) → W p l e (rmz 9 154) s m args below meth c H locs 0 0 (QI SX Γ ad A below args s r σ1) (F0 m 219 ls [.int t0]) := by
    intro rc15 ih15 x1 x2 x3 x4 t0 σ H locs ls hP hl hF
    rw [f13_isSound_b219] at hF
    refine r_aload_n cx dL_isSound_219 (lv_at hl 0 rfl) ?_
    refine r_iload_n cx dL_isSound_220 (lv_at hl 3 rfl) ?_
    obtain ⟨v16, s17, hc, hF⟩ := bns_some hF
    refine r_callWi cx hP (As := [.ref (ad 0 0), .int x3]) (wn_visitsWith l Γ ad A x3 σ v16 s17 (wn_some hc)) mz13_242 ⟨Nat.le_of_ble_eq_true rfl, Nat.le_of_ble_eq_true rfl⟩ rfl (Nat.le_of_ble_eq_true rfl) hl.1 ⟨Nat.zero_le _, Nat.zero_le _⟩ dL_isSound_221 (fun H locs hP => ?_)
    refine r_if_ne cx 231 dL_isSound_224 (by decide) hF (fun hF => ?_) (fun hF => ?_)
    · refine r_iconst cx 0 dL_isSound_231 (by decide) ?_
      exact b232 rc15 ih15 x1 x2 x3 x4 t0 0 s17 _ _ _ hP (lv_sub hl [0, 1, 2, 3, 4] rfl) hF
    · refine r_iconst cx 1 dL_isSound_227 (by decide) ?_
      refine r_goto cx 232 dL_isSound_228 (by decide) ?_
      exact b232 rc15 ih15 x1 x2 x3 x4 t0 1 s17 _ _ _ hP (lv_sub hl [0, 1, 2, 3, 4] rfl) hF
  have b155 : ∀ (rc15 : Int32 → Int32 → Int32 → Sig → Option (Int32 × Sig)) (ih15 : ∀ (x1 : Int32) (x2 : Int32) (x3 : Int32) (σ : Sig) (H : Heap) (locs : List Loc) (ls : Array Slot), PS SX Γ ad A s σ H locs → lv_has ls 7 [(0, .ref (ad 0 0)), (1, .int x1), (2, .int x2), (3, .int x3)] → rc15 x1 x2 x3 σ = some (r, σ1) → W p l e (rmz 9 154) s m args below meth c H locs 0 0 (QI SX Γ ad A below args s r σ1) (F0 m 15 ls [])) (x1 : Int32) (x2 : Int32) (x3 : Int32) (x4 : Int32) (σ : Sig) (H : Heap) (locs : List Loc) (ls : Array Slot), PS SX Γ ad A s σ H locs → lv_has ls 7 [(0, .ref (ad 0 0)), (1, .int x1), (2, .int x2), (3, .int x3), (4, .int x4)] → f13_isSound_b155 rc15 x1 x2 x3 x4 σ = some (r, σ1) → W p l e (rmz 9 154) s m args below meth c H locs 0 0 (QI SX Γ ad A below args s r σ1) (F0 m 155 ls []) := by
    intro rc15 ih15 x1 x2 x3 x4 σ H locs ls hP hl hF
    rw [f13_isSound_b155] at hF
    refine r_aload_n cx dL_isSound_155 (lv_at hl 0 rfl) ?_
    refine r_iload_n cx dL_isSound_156 (lv_at hl 3 rfl) ?_
    obtain ⟨v18, s19, hc, hF⟩ := bns_some hF
    refine r_callWi cx hP (As := [.ref (ad 0 0), .int x3]) (wn_lastDay l Γ ad A x3 σ v18 s19 (wn_some hc)) mz13_255 ⟨Nat.le_of_ble_eq_true rfl, Nat.le_of_ble_eq_true rfl⟩ rfl (Nat.le_of_ble_eq_true rfl) hl.1 ⟨Nat.zero_le _, Nat.zero_le _⟩ dL_isSound_157 (fun H locs hP => ?_)
    refine r_aload_n cx dL_isSound_160 (lv_at hl 0 rfl) ?_
    refine r_iload_n cx dL_isSound_161 (lv_at hl 3 rfl) ?_
    obtain ⟨v20, s21, hc, hF⟩ := bns_some hF
    refine r_callWi cx hP (As := [.ref (ad 0 0), .int x3]) (wn_firstDay l Γ ad A x3 s19 v20 s21 (wn_some hc)) mz13_257 ⟨Nat.le_of_ble_eq_true rfl, Nat.le_of_ble_eq_true rfl⟩ rfl (Nat.le_of_ble_eq_true rfl) hl.1 ⟨Nat.zero_le _, Nat.zero_le _⟩ dL_isSound_162 (fun H locs hP => ?_)
    refine r_isub cx dL_isSound_165 hF (fun v22 hF => ?_)
    refine r_iconst cx 1 dL_isSound_166 (by decide) ?_
    refine r_iadd cx dL_isSound_167 hF (fun v23 hF => ?_)
    refine r_istore cx [(6, .int v23), (0, .ref (ad 0 0)), (1, .int x1), (2, .int x2), (3, .int x3), (4, .int x4)] dL_isSound_168 hl (by decide) rfl (fun ls hl => ?_)
    refine r_iload cx dL_isSound_170 (lv_at hl 0 rfl) ?_
    refine r_iconst cx 1 dL_isSound_172 (by decide) ?_
    refine r_icmp_lt cx 235 dL_isSound_173 (by decide) hF (fun hF => ?_) (fun hF => ?_)
    · refine r_iconst cx 0 dL_isSound_235 (by decide) ?_
      exact r_zret cx hP hr hk (by decide) dL_isSound_236 hF
    · refine r_iload cx dL_isSound_176 (lv_at hl 0 rfl) ?_
      refine r_bipush cx 14 dL_isSound_178 (by decide) ?_
      refine r_icmp_gt cx 235 dL_isSound_180 (by decide) hF (fun hF => ?_) (fun hF => ?_)
      · refine r_iconst cx 0 dL_isSound_235 (by decide) ?_
        exact r_zret cx hP hr hk (by decide) dL_isSound_236 hF
      · refine r_aload_n cx dL_isSound_183 (lv_at hl 1 rfl) ?_
        refine r_iload_n cx dL_isSound_184 (lv_at hl 4 rfl) ?_
        obtain ⟨v24, s25, hc, hF⟩ := bns_some hF
        refine r_callWi cx hP (As := [.ref (ad 0 0), .int x3]) (wn_usedDays l Γ ad A x3 s21 v24 s25 (wn_some hc)) mz13_259 ⟨Nat.le_of_ble_eq_true rfl, Nat.le_of_ble_eq_true rfl⟩ rfl (Nat.le_of_ble_eq_true rfl) hl.1 ⟨Nat.zero_le _, Nat.zero_le _⟩ dL_isSound_185 (fun H locs hP => ?_)
        refine r_iload cx dL_isSound_188 (lv_at hl 0 rfl) ?_
        refine r_icmp_gt cx 235 dL_isSound_190 (by decide) hF (fun hF => ?_) (fun hF => ?_)
        · refine r_iconst cx 0 dL_isSound_235 (by decide) ?_
          exact r_zret cx hP hr hk (by decide) dL_isSound_236 hF
        · refine r_aload_n cx dL_isSound_193 (lv_at hl 1 rfl) ?_
          refine r_iload_n cx dL_isSound_194 (lv_at hl 4 rfl) ?_
          obtain ⟨v26, s27, hc, hF⟩ := bns_some hF
          refine r_callWi cx hP (As := [.ref (ad 0 0), .int x3]) (wn_usedDays l Γ ad A x3 s25 v26 s27 (wn_some hc)) mz13_259 ⟨Nat.le_of_ble_eq_true rfl, Nat.le_of_ble_eq_true rfl⟩ rfl (Nat.le_of_ble_eq_true rfl) hl.1 ⟨Nat.zero_le _, Nat.zero_le _⟩ dL_isSound_195 (fun H locs hP => ?_)
          refine r_aload_n cx dL_isSound_198 (lv_at hl 1 rfl) ?_
          refine r_iload_n cx dL_isSound_199 (lv_at hl 4 rfl) ?_
          obtain ⟨v28, s29, hc, hF⟩ := bns_some hF
          refine r_callWi cx hP (As := [.ref (ad 0 0), .int x3]) (wn_visitsWith l Γ ad A x3 s27 v28 s29 (wn_some hc)) mz13_242 ⟨Nat.le_of_ble_eq_true rfl, Nat.le_of_ble_eq_true rfl⟩ rfl (Nat.le_of_ble_eq_true rfl) hl.1 ⟨Nat.zero_le _, Nat.zero_le _⟩ dL_isSound_200 (fun H locs hP => ?_)
          refine r_icmp_gt cx 235 dL_isSound_203 (by decide) hF (fun hF => ?_) (fun hF => ?_)
          · refine r_iconst cx 0 dL_isSound_235 (by decide) ?_
            exact r_zret cx hP hr hk (by decide) dL_isSound_236 hF
          · refine r_aload_n cx dL_isSound_206 (lv_at hl 1 rfl) ?_
            refine r_iload_n cx dL_isSound_207 (lv_at hl 4 rfl) ?_
            obtain ⟨v30, s31, hc, hF⟩ := bns_some hF
            refine r_callWi cx hP (As := [.ref (ad 0 0), .int x3]) (wn_usedDays l Γ ad A x3 s29 v30 s31 (wn_some hc)) mz13_259 ⟨Nat.le_of_ble_eq_true rfl, Nat.le_of_ble_eq_true rfl⟩ rfl (Nat.le_of_ble_eq_true rfl) hl.1 ⟨Nat.zero_le _, Nat.zero_le _⟩ dL_isSound_208 (fun H locs hP => ?_)
            refine r_if_ne cx 218 dL_isSound_211 (by decide) hF (fun hF => ?_) (fun hF => ?_)
            · refine r_iconst cx 0 dL_isSound_218 (by decide) ?_
              exact b219 rc15 ih15 x1 x2 x3 x4 0 s31 _ _ _ hP (lv_sub hl [1, 2, 3, 4, 5] rfl) hF
            · refine r_iconst cx 1 dL_isSound_214 (by decide) ?_
              refine r_goto cx 219 dL_isSound_215 (by decide) ?_
              exact b219 rc15 ih15 x1 x2 x3 x4 1 s31 _ _ _ hP (lv_sub hl [1, 2, 3, 4, 5] rfl) hF
  have b131 : ∀ (rc15 : Int32 → Int32 → Int32 → Sig → Option (Int32 × Sig)) (ih15 : ∀ (x1 : Int32) (x2 : Int32) (x3 : Int32) (σ : Sig) (H : Heap) (locs : List Loc) (ls : Array Slot), PS SX Γ ad A s σ H locs → lv_has ls 7 [(0, .ref (ad 0 0)), (1, .int x1), (2, .int x2), (3, .int x3)] → rc15 x1 x2 x3 σ = some (r, σ1) → W p l e (rmz 9 154) s m args below meth c H locs 0 0 (QI SX Γ ad A below args s r σ1) (F0 m 15 ls [])) (x1 : Int32) (x2 : Int32) (x3 : Int32) (x4 : Int32) (x5 : Int32) (σ : Sig) (H : Heap) (locs : List Loc) (ls : Array Slot), PS SX Γ ad A s σ H locs → lv_has ls 7 [(0, .ref (ad 0 0)), (1, .int x1), (2, .int x2), (3, .int x3), (4, .int x4), (5, .int x5)] → f13_isSound_b131 rc15 x1 x2 x3 x4 x5 σ = some (r, σ1) → W p l e (rmz 9 154) s m args below meth c H locs 0 0 (QI SX Γ ad A below args s r σ1) (F0 m 131 ls []) := by
    intro rc15 ih15 x1 x2 x3 x4 x5 σ H locs ls hP hl hF
    rw [f13_isSound_b131] at hF
    refine r_aload_n cx dL_isSound_131 (lv_at hl 0 rfl) ?_
    refine r_iload_n cx dL_isSound_132 (lv_at hl 3 rfl) ?_
    obtain ⟨v32, s33, hc, hF⟩ := bns_some hF
    refine r_callWi cx hP (As := [.ref (ad 0 0), .int x3]) (wn_isReturned l Γ ad A x3 σ v32 s33 (wn_some hc)) mz13_251 ⟨Nat.le_of_ble_eq_true rfl, Nat.le_of_ble_eq_true rfl⟩ rfl (Nat.le_of_ble_eq_true rfl) hl.1 ⟨Nat.zero_le _, Nat.zero_le _⟩ dL_isSound_133 (fun H locs hP => ?_)
    refine r_if_eq cx 155 dL_isSound_136 (by decide) hF (fun hF => ?_) (fun hF => ?_)
    · exact b155 rc15 ih15 x1 x2 x3 x4 s33 _ _ _ hP (lv_sub hl [0, 1, 2, 3, 4] rfl) hF
    · refine r_iload cx dL_isSound_139 (lv_at hl 5 rfl) ?_
      refine r_iconst cx (-1) dL_isSound_141 (by decide) ?_
      refine r_icmp_ne cx 153 dL_isSound_142 (by decide) hF (fun hF => ?_) (fun hF => ?_)
      · refine r_iconst cx 0 dL_isSound_153 (by decide) ?_
        exact r_zret cx hP hr hk (by decide) dL_isSound_154 hF
      · refine r_aload_n cx dL_isSound_145 (lv_at hl 0 rfl) ?_
        refine r_iload_n cx dL_isSound_146 (lv_at hl 3 rfl) ?_
        obtain ⟨v34, s35, hc, hF⟩ := bns_some hF
        refine r_callWi cx hP (As := [.ref (ad 0 0), .int x3]) (wn_refundOf l Γ ad A x3 s33 v34 s35 (wn_some hc)) mz13_253 ⟨Nat.le_of_ble_eq_true rfl, Nat.le_of_ble_eq_true rfl⟩ rfl (Nat.le_of_ble_eq_true rfl) hl.1 ⟨Nat.zero_le _, Nat.zero_le _⟩ dL_isSound_147 (fun H locs hP => ?_)
        refine r_if_eq cx 155 dL_isSound_150 (by decide) hF (fun hF => ?_) (fun hF => ?_)
        · exact b155 rc15 ih15 x1 x2 x3 x4 s35 _ _ _ hP (lv_sub hl [0, 1, 2, 3, 4] rfl) hF
        · refine r_iconst cx 0 dL_isSound_153 (by decide) ?_
          exact r_zret cx hP hr hk (by decide) dL_isSound_154 hF
  have b101 : ∀ (rc15 : Int32 → Int32 → Int32 → Sig → Option (Int32 × Sig)) (ih15 : ∀ (x1 : Int32) (x2 : Int32) (x3 : Int32) (σ : Sig) (H : Heap) (locs : List Loc) (ls : Array Slot), PS SX Γ ad A s σ H locs → lv_has ls 7 [(0, .ref (ad 0 0)), (1, .int x1), (2, .int x2), (3, .int x3)] → rc15 x1 x2 x3 σ = some (r, σ1) → W p l e (rmz 9 154) s m args below meth c H locs 0 0 (QI SX Γ ad A below args s r σ1) (F0 m 15 ls [])) (x1 : Int32) (x2 : Int32) (x3 : Int32) (x4 : Int32) (x5 : Int32) (t0 : Int32) (t1 : Int32) (σ : Sig) (H : Heap) (locs : List Loc) (ls : Array Slot), PS SX Γ ad A s σ H locs → lv_has ls 7 [(0, .ref (ad 0 0)), (1, .int x1), (2, .int x2), (3, .int x3), (4, .int x4), (5, .int x5)] → f13_isSound_b101 rc15 x1 x2 x3 x4 x5 t0 t1 σ = some (r, σ1) → W p l e (rmz 9 154) s m args below meth c H locs 0 0 (QI SX Γ ad A below args s r σ1) (F0 m 101 ls [.int t1, .int t0]) := by
    intro rc15 ih15 x1 x2 x3 x4 x5 t0 t1 σ H locs ls hP hl hF
    rw [f13_isSound_b101] at hF
    refine r_icmp_ne cx 129 dL_isSound_101 (by decide) hF (fun hF => ?_) (fun hF => ?_)
    · refine r_iconst cx 0 dL_isSound_129 (by decide) ?_
      exact r_zret cx hP hr hk (by decide) dL_isSound_130 hF
    · refine r_iload cx dL_isSound_104 (lv_at hl 5 rfl) ?_
      refine r_iconst cx (-1) dL_isSound_106 (by decide) ?_
      refine r_icmp_eq cx 131 dL_isSound_107 (by decide) hF (fun hF => ?_) (fun hF => ?_)
      · exact b131 rc15 ih15 x1 x2 x3 x4 x5 σ _ _ _ hP (lv_sub hl [0, 1, 2, 3, 4, 5] rfl) hF
      · refine r_aload_n cx dL_isSound_110 (lv_at hl 0 rfl) ?_
        refine r_iload cx dL_isSound_111 (lv_at hl 5 rfl) ?_
        obtain ⟨v36, s37, hc, hF⟩ := bns_some hF
        refine r_callWi cx hP (As := [.ref (ad 0 0), .int x5]) (wn_passOf l Γ ad A x5 σ v36 s37 (wn_some hc)) mz13_244 ⟨Nat.le_of_ble_eq_true rfl, Nat.le_of_ble_eq_true rfl⟩ rfl (Nat.le_of_ble_eq_true rfl) hl.1 ⟨Nat.zero_le _, Nat.zero_le _⟩ dL_isSound_113 (fun H locs hP => ?_)
        refine r_iload_n cx dL_isSound_116 (lv_at hl 3 rfl) ?_
        refine r_icmp_ne cx 129 dL_isSound_117 (by decide) hF (fun hF => ?_) (fun hF => ?_)
        · refine r_iconst cx 0 dL_isSound_129 (by decide) ?_
          exact r_zret cx hP hr hk (by decide) dL_isSound_130 hF
        · refine r_aload_n cx dL_isSound_120 (lv_at hl 0 rfl) ?_
          refine r_iload cx dL_isSound_121 (lv_at hl 5 rfl) ?_
          obtain ⟨v38, s39, hc, hF⟩ := bns_some hF
          refine r_callWi cx hP (As := [.ref (ad 0 0), .int x5]) (wn_isBlocked l Γ ad A x5 s37 v38 s39 (wn_some hc)) mz13_246 ⟨Nat.le_of_ble_eq_true rfl, Nat.le_of_ble_eq_true rfl⟩ rfl (Nat.le_of_ble_eq_true rfl) hl.1 ⟨Nat.zero_le _, Nat.zero_le _⟩ dL_isSound_123 (fun H locs hP => ?_)
          refine r_if_eq cx 131 dL_isSound_126 (by decide) hF (fun hF => ?_) (fun hF => ?_)
          · exact b131 rc15 ih15 x1 x2 x3 x4 x5 s39 _ _ _ hP (lv_sub hl [0, 1, 2, 3, 4, 5] rfl) hF
          · refine r_iconst cx 0 dL_isSound_129 (by decide) ?_
            exact r_zret cx hP hr hk (by decide) dL_isSound_130 hF
  have b37 : ∀ (rc15 : Int32 → Int32 → Int32 → Sig → Option (Int32 × Sig)) (ih15 : ∀ (x1 : Int32) (x2 : Int32) (x3 : Int32) (σ : Sig) (H : Heap) (locs : List Loc) (ls : Array Slot), PS SX Γ ad A s σ H locs → lv_has ls 7 [(0, .ref (ad 0 0)), (1, .int x1), (2, .int x2), (3, .int x3)] → rc15 x1 x2 x3 σ = some (r, σ1) → W p l e (rmz 9 154) s m args below meth c H locs 0 0 (QI SX Γ ad A below args s r σ1) (F0 m 15 ls [])) (fu : Nat) (x1 : Int32) (x2 : Int32) (x3 : Int32) (x4 : Int32) (x5 : Int32) (σ : Sig) (H : Heap) (locs : List Loc) (ls : Array Slot), PS SX Γ ad A s σ H locs → lv_has ls 7 [(0, .ref (ad 0 0)), (1, .int x1), (2, .int x2), (3, .int x3), (4, .int x4), (5, .int x5)] → f13_isSound_b37 rc15 fu x1 x2 x3 x4 x5 σ = some (r, σ1) → W p l e (rmz 9 154) s m args below meth c H locs 0 0 (QI SX Γ ad A below args s r σ1) (F0 m 37 ls []) := by
    intro rc15 ih15 fu
    induction fu with
    | zero => intro x1 x2 x3 x4 x5 σ H locs ls hP hl hF; exact nofu hF
    | succ fu ih =>
      intro x1 x2 x3 x4 x5 σ H locs ls hP hl hF
      rw [f13_isSound_b37] at hF
      refine r_iload cx dL_isSound_37 (lv_at hl 5 rfl) ?_
      refine r_aload_n cx dL_isSound_39 (lv_at hl 0 rfl) ?_
      obtain ⟨v40, hc, hF⟩ := bnd_some hF
      refine r_callVi cx hP (As := []) (w11_cardCount l Γ ad A σ v40 hc) mw13_194 ⟨Nat.le_of_ble_eq_true rfl, Nat.le_of_ble_eq_true rfl⟩ (dXr (by decide)) rfl rfl rfl (Nat.le_of_ble_eq_true rfl) hl.1 ⟨Nat.zero_le _, Nat.zero_le _⟩ dL_isSound_40 (fun H locs hP => ?_)
      refine r_icmp_ge cx 81 dL_isSound_43 (by decide) hF (fun hF => ?_) (fun hF => ?_)
      · refine r_aload_n cx dL_isSound_81 (lv_at hl 0 rfl) ?_
        refine r_iload_n cx dL_isSound_82 (lv_at hl 3 rfl) ?_
        obtain ⟨v41, s42, hc, hF⟩ := bns_some hF
        refine r_callWi cx hP (As := [.ref (ad 0 0), .int x3]) (wn_cardOf l Γ ad A x3 σ v41 s42 (wn_some hc)) mz13_249 ⟨Nat.le_of_ble_eq_true rfl, Nat.le_of_ble_eq_true rfl⟩ rfl (Nat.le_of_ble_eq_true rfl) hl.1 ⟨Nat.zero_le _, Nat.zero_le _⟩ dL_isSound_83 (fun H locs hP => ?_)
        refine r_istore cx [(5, .int v41), (0, .ref (ad 0 0)), (1, .int x1), (2, .int x2), (3, .int x3), (4, .int x4)] dL_isSound_86 hl (by decide) rfl (fun ls hl => ?_)
        refine r_iload cx dL_isSound_88 (lv_at hl 5 rfl) ?_
        refine r_iload cx dL_isSound_90 (lv_at hl 0 rfl) ?_
        refine r_iconst cx (-1) dL_isSound_92 (by decide) ?_
        refine r_icmp_ne cx 100 dL_isSound_93 (by decide) hF (fun hF => ?_) (fun hF => ?_)
        · refine r_iconst cx 1 dL_isSound_100 (by decide) ?_
          exact b101 rc15 ih15 x1 x2 x3 x4 v41 x4 1 s42 _ _ _ hP (lv_sub hl [1, 2, 3, 4, 5, 0] rfl) hF
        · refine r_iconst cx 0 dL_isSound_96 (by decide) ?_
          refine r_goto cx 101 dL_isSound_97 (by decide) ?_
          exact b101 rc15 ih15 x1 x2 x3 x4 v41 x4 0 s42 _ _ _ hP (lv_sub hl [1, 2, 3, 4, 5, 0] rfl) hF
      · refine r_iload cx dL_isSound_46 (lv_at hl 4 rfl) ?_
        refine r_aload_n cx dL_isSound_48 (lv_at hl 0 rfl) ?_
        refine r_iload cx dL_isSound_49 (lv_at hl 5 rfl) ?_
        obtain ⟨v43, s44, hc, hF⟩ := bns_some hF
        refine r_callWi cx hP (As := [.ref (ad 0 0), .int x5]) (wn_passOf l Γ ad A x5 σ v43 s44 (wn_some hc)) mz13_244 ⟨Nat.le_of_ble_eq_true rfl, Nat.le_of_ble_eq_true rfl⟩ rfl (Nat.le_of_ble_eq_true rfl) hl.1 ⟨Nat.zero_le _, Nat.zero_le _⟩ dL_isSound_51 (fun H locs hP => ?_)
        refine r_iload_n cx dL_isSound_54 (lv_at hl 3 rfl) ?_
        refine r_icmp_ne cx 71 dL_isSound_55 (by decide) hF (fun hF => ?_) (fun hF => ?_)
        · exact b71 rc15 ih15 (f13_isSound_b37 rc15 fu) ih x1 x2 x3 x5 x4 s44 _ _ _ hP (lv_sub hl [0, 1, 2, 3, 5] rfl) hF
        · refine r_aload_n cx dL_isSound_58 (lv_at hl 0 rfl) ?_
          refine r_iload cx dL_isSound_59 (lv_at hl 5 rfl) ?_
          obtain ⟨v45, s46, hc, hF⟩ := bns_some hF
          refine r_callWi cx hP (As := [.ref (ad 0 0), .int x5]) (wn_isBlocked l Γ ad A x5 s44 v45 s46 (wn_some hc)) mz13_246 ⟨Nat.le_of_ble_eq_true rfl, Nat.le_of_ble_eq_true rfl⟩ rfl (Nat.le_of_ble_eq_true rfl) hl.1 ⟨Nat.zero_le _, Nat.zero_le _⟩ dL_isSound_61 (fun H locs hP => ?_)
          refine r_if_ne cx 71 dL_isSound_64 (by decide) hF (fun hF => ?_) (fun hF => ?_)
          · exact b71 rc15 ih15 (f13_isSound_b37 rc15 fu) ih x1 x2 x3 x5 x4 s46 _ _ _ hP (lv_sub hl [0, 1, 2, 3, 5] rfl) hF
          · refine r_iconst cx 1 dL_isSound_67 (by decide) ?_
            refine r_goto cx 72 dL_isSound_68 (by decide) ?_
            exact b72 rc15 ih15 (f13_isSound_b37 rc15 fu) ih x1 x2 x3 x5 x4 1 s46 _ _ _ hP (lv_sub hl [0, 1, 2, 3, 5] rfl) hF
  have b386 : ∀ (t0 : Int32) (t1 : Int32) (σ : Sig) (H : Heap) (locs : List Loc) (ls : Array Slot), PS SX Γ ad A s σ H locs → lv_has ls 7 [] → f13_isSound_b386 t0 t1 σ = some (r, σ1) → W p l e (rmz 9 154) s m args below meth c H locs 0 0 (QI SX Γ ad A below args s r σ1) (F0 m 386 ls [.int t1, .int t0]) := by
    intro t0 t1 σ H locs ls hP hl hF
    rw [f13_isSound_b386] at hF
    refine r_icmp_ne cx 393 dL_isSound_386 (by decide) hF (fun hF => ?_) (fun hF => ?_)
    · refine r_iconst cx 0 dL_isSound_393 (by decide) ?_
      exact r_zret cx hP hr hk (by decide) dL_isSound_394 hF
    · refine r_iconst cx 1 dL_isSound_389 (by decide) ?_
      refine r_goto cx 394 dL_isSound_390 (by decide) ?_
      exact r_zret cx hP hr hk (by decide) dL_isSound_394 hF
  have b291 : ∀ (fu : Nat) (x1 : Int32) (x2 : Int32) (x3 : Int32) (σ : Sig) (H : Heap) (locs : List Loc) (ls : Array Slot), PS SX Γ ad A s σ H locs → lv_has ls 7 [(0, .ref (ad 0 0)), (1, .int x1), (2, .int x2), (3, .int x3)] → f13_isSound_b291 fu x1 x2 x3 σ = some (r, σ1) → W p l e (rmz 9 154) s m args below meth c H locs 0 0 (QI SX Γ ad A below args s r σ1) (F0 m 291 ls []) := by
    intro fu
    induction fu with
    | zero => intro x1 x2 x3 σ H locs ls hP hl hF; exact nofu hF
    | succ fu ih =>
      intro x1 x2 x3 σ H locs ls hP hl hF
      rw [f13_isSound_b291] at hF
      refine r_iload_n cx dL_isSound_291 (lv_at hl 3 rfl) ?_
      refine r_aload_n cx dL_isSound_292 (lv_at hl 0 rfl) ?_
      obtain ⟨v47, hc, hF⟩ := bnd_some hF
      refine r_callVi cx hP (As := []) (w11_bedCount l Γ ad A σ v47 hc) mw13_197 ⟨Nat.le_of_ble_eq_true rfl, Nat.le_of_ble_eq_true rfl⟩ (dXr (by decide)) rfl rfl rfl (Nat.le_of_ble_eq_true rfl) hl.1 ⟨Nat.zero_le _, Nat.zero_le _⟩ dL_isSound_293 (fun H locs hP => ?_)
      refine r_icmp_ge cx 341 dL_isSound_296 (by decide) hF (fun hF => ?_) (fun hF => ?_)
      · refine r_iload_n cx dL_isSound_341 (lv_at hl 1 rfl) ?_
        refine r_if_ne cx 393 dL_isSound_342 (by decide) hF (fun hF => ?_) (fun hF => ?_)
        · refine r_iconst cx 0 dL_isSound_393 (by decide) ?_
          exact r_zret cx hP hr hk (by decide) dL_isSound_394 hF
        · refine r_iload_n cx dL_isSound_345 (lv_at hl 2 rfl) ?_
          refine r_aload_n cx dL_isSound_346 (lv_at hl 0 rfl) ?_
          obtain ⟨v48, hc, hF⟩ := bnd_some hF
          refine r_callVi cx hP (As := []) (w11_cardCount l Γ ad A σ v48 hc) mw13_194 ⟨Nat.le_of_ble_eq_true rfl, Nat.le_of_ble_eq_true rfl⟩ (dXr (by decide)) rfl rfl rfl (Nat.le_of_ble_eq_true rfl) hl.1 ⟨Nat.zero_le _, Nat.zero_le _⟩ dL_isSound_347 (fun H locs hP => ?_)
          refine r_icmp_gt cx 393 dL_isSound_350 (by decide) hF (fun hF => ?_) (fun hF => ?_)
          · refine r_iconst cx 0 dL_isSound_393 (by decide) ?_
            exact r_zret cx hP hr hk (by decide) dL_isSound_394 hF
          · refine r_aload_n cx dL_isSound_353 (lv_at hl 0 rfl) ?_
            obtain ⟨v49, hc, hF⟩ := bnd_some hF
            refine r_callVi cx hP (As := []) (w11_finesPaid l Γ ad A σ v49 hc) mw13_273 ⟨Nat.le_of_ble_eq_true rfl, Nat.le_of_ble_eq_true rfl⟩ (dXr (by decide)) rfl rfl rfl (Nat.le_of_ble_eq_true rfl) hl.1 ⟨Nat.zero_le _, Nat.zero_le _⟩ dL_isSound_354 (fun H locs hP => ?_)
            refine r_if_lt cx 393 dL_isSound_357 (by decide) hF (fun hF => ?_) (fun hF => ?_)
            · refine r_iconst cx 0 dL_isSound_393 (by decide) ?_
              exact r_zret cx hP hr hk (by decide) dL_isSound_394 hF
            · refine r_aload_n cx dL_isSound_360 (lv_at hl 0 rfl) ?_
              obtain ⟨v50, hc, hF⟩ := bnd_some hF
              refine r_callVi cx hP (As := []) (w11_refunds l Γ ad A σ v50 hc) mw13_276 ⟨Nat.le_of_ble_eq_true rfl, Nat.le_of_ble_eq_true rfl⟩ (dXr (by decide)) rfl rfl rfl (Nat.le_of_ble_eq_true rfl) hl.1 ⟨Nat.zero_le _, Nat.zero_le _⟩ dL_isSound_361 (fun H locs hP => ?_)
              refine r_if_lt cx 393 dL_isSound_364 (by decide) hF (fun hF => ?_) (fun hF => ?_)
              · refine r_iconst cx 0 dL_isSound_393 (by decide) ?_
                exact r_zret cx hP hr hk (by decide) dL_isSound_394 hF
              · refine r_aload_n cx dL_isSound_367 (lv_at hl 0 rfl) ?_
                obtain ⟨v51, hc, hF⟩ := bnd_some hF
                refine r_callVi cx hP (As := []) (w11_ticksUntilOpen l Γ ad A σ v51 hc) mw13_279 ⟨Nat.le_of_ble_eq_true rfl, Nat.le_of_ble_eq_true rfl⟩ (dXr (by decide)) rfl rfl rfl (Nat.le_of_ble_eq_true rfl) hl.1 ⟨Nat.zero_le _, Nat.zero_le _⟩ dL_isSound_368 (fun H locs hP => ?_)
                refine r_aload_n cx dL_isSound_371 (lv_at hl 0 rfl) ?_
                obtain ⟨v52, hc, hF⟩ := bnd_some hF
                refine r_callVi cx hP (As := []) (w11_isOpen l Γ ad A σ v52 hc) mw13_282 ⟨Nat.le_of_ble_eq_true rfl, Nat.le_of_ble_eq_true rfl⟩ (dXr (by decide)) rfl rfl rfl (Nat.le_of_ble_eq_true rfl) hl.1 ⟨Nat.zero_le _, Nat.zero_le _⟩ dL_isSound_372 (fun H locs hP => ?_)
                refine r_if_eq cx 382 dL_isSound_375 (by decide) hF (fun hF => ?_) (fun hF => ?_)
                · refine r_aload_n cx dL_isSound_382 (lv_at hl 0 rfl) ?_
                  obtain ⟨v53, hc, hF⟩ := bnd_some hF
                  refine r_callVi cx hP (As := []) (w11_ticksUntilOpen l Γ ad A σ v53 hc) mw13_279 ⟨Nat.le_of_ble_eq_true rfl, Nat.le_of_ble_eq_true rfl⟩ (dXr (by decide)) rfl rfl rfl (Nat.le_of_ble_eq_true rfl) hl.1 ⟨Nat.zero_le _, Nat.zero_le _⟩ dL_isSound_383 (fun H locs hP => ?_)
                  exact b386 v51 v53 σ _ _ _ hP (lv_sub hl [] rfl) hF
                · refine r_iconst cx 0 dL_isSound_378 (by decide) ?_
                  refine r_goto cx 386 dL_isSound_379 (by decide) ?_
                  exact b386 v51 0 σ _ _ _ hP (lv_sub hl [] rfl) hF
      · refine r_iload_n cx dL_isSound_299 (lv_at hl 1 rfl) ?_
        refine r_aload_n cx dL_isSound_300 (lv_at hl 0 rfl) ?_
        refine r_iload_n cx dL_isSound_301 (lv_at hl 3 rfl) ?_
        obtain ⟨v54, s55, hc, hF⟩ := bns_some hF
        refine r_callWi cx hP (As := [.ref (ad 0 0), .int x3]) (wn_visitsTo l Γ ad A x3 σ v54 s55 (wn_some hc)) mz13_267 ⟨Nat.le_of_ble_eq_true rfl, Nat.le_of_ble_eq_true rfl⟩ rfl (Nat.le_of_ble_eq_true rfl) hl.1 ⟨Nat.zero_le _, Nat.zero_le _⟩ dL_isSound_302 (fun H locs hP => ?_)
        refine r_isub cx dL_isSound_305 hF (fun v56 hF => ?_)
        refine r_istore_n cx [(1, .int v56), (0, .ref (ad 0 0)), (2, .int x2), (3, .int x3)] dL_isSound_306 hl (by decide) rfl (fun ls hl => ?_)
        refine r_aload_n cx dL_isSound_307 (lv_at hl 1 rfl) ?_
        refine r_iload_n cx dL_isSound_308 (lv_at hl 3 rfl) ?_
        obtain ⟨v57, s58, hc, hF⟩ := bns_some hF
        refine r_callWi cx hP (As := [.ref (ad 0 0), .int x3]) (wn_blooms l Γ ad A x3 s55 v57 s58 (wn_some hc)) mz13_269 ⟨Nat.le_of_ble_eq_true rfl, Nat.le_of_ble_eq_true rfl⟩ rfl (Nat.le_of_ble_eq_true rfl) hl.1 ⟨Nat.zero_le _, Nat.zero_le _⟩ dL_isSound_309 (fun H locs hP => ?_)
        refine r_if_lt cx 333 dL_isSound_312 (by decide) hF (fun hF => ?_) (fun hF => ?_)
        · refine r_iconst cx 0 dL_isSound_333 (by decide) ?_
          exact r_zret cx hP hr hk (by decide) dL_isSound_334 hF
        · refine r_aload_n cx dL_isSound_315 (lv_at hl 1 rfl) ?_
          refine r_iload_n cx dL_isSound_316 (lv_at hl 3 rfl) ?_
          obtain ⟨v59, s60, hc, hF⟩ := bns_some hF
          refine r_callWi cx hP (As := [.ref (ad 0 0), .int x3]) (wn_blooms l Γ ad A x3 s58 v59 s60 (wn_some hc)) mz13_269 ⟨Nat.le_of_ble_eq_true rfl, Nat.le_of_ble_eq_true rfl⟩ rfl (Nat.le_of_ble_eq_true rfl) hl.1 ⟨Nat.zero_le _, Nat.zero_le _⟩ dL_isSound_317 (fun H locs hP => ?_)
          refine r_bipush cx 50 dL_isSound_320 (by decide) ?_
          refine r_icmp_gt cx 333 dL_isSound_322 (by decide) hF (fun hF => ?_) (fun hF => ?_)
          · refine r_iconst cx 0 dL_isSound_333 (by decide) ?_
            exact r_zret cx hP hr hk (by decide) dL_isSound_334 hF
          · refine r_aload_n cx dL_isSound_325 (lv_at hl 1 rfl) ?_
            refine r_iload_n cx dL_isSound_326 (lv_at hl 3 rfl) ?_
            obtain ⟨v61, s62, hc, hF⟩ := bns_some hF
            refine r_callWi cx hP (As := [.ref (ad 0 0), .int x3]) (wn_placesLeft l Γ ad A x3 s60 v61 s62 (wn_some hc)) mz13_271 ⟨Nat.le_of_ble_eq_true rfl, Nat.le_of_ble_eq_true rfl⟩ rfl (Nat.le_of_ble_eq_true rfl) hl.1 ⟨Nat.zero_le _, Nat.zero_le _⟩ dL_isSound_327 (fun H locs hP => ?_)
            refine r_if_ge cx 335 dL_isSound_330 (by decide) hF (fun hF => ?_) (fun hF => ?_)
            · refine r_iinc cx (k := 3) (w := 1) (fun v63 => [(3, .int v63), (1, .int v56), (0, .ref (ad 0 0)), (2, .int x2)]) dL_isSound_335 hl rfl (by decide) (by decide) hF (fun _ => rfl) (fun v63 ls hF hl => ?_)
              refine r_goto cx 291 dL_isSound_338 (by decide) ?_
              exact ih v56 x2 v63 s62 _ _ _ hP (lv_sub hl [2, 1, 3, 0] rfl) hF
            · refine r_iconst cx 0 dL_isSound_333 (by decide) ?_
              exact r_zret cx hP hr hk (by decide) dL_isSound_334 hF
  have b15 : ∀ (fu : Nat) (x1 : Int32) (x2 : Int32) (x3 : Int32) (σ : Sig) (H : Heap) (locs : List Loc) (ls : Array Slot), PS SX Γ ad A s σ H locs → lv_has ls 7 [(0, .ref (ad 0 0)), (1, .int x1), (2, .int x2), (3, .int x3)] → f13_isSound_b15 fu x1 x2 x3 σ = some (r, σ1) → W p l e (rmz 9 154) s m args below meth c H locs 0 0 (QI SX Γ ad A below args s r σ1) (F0 m 15 ls []) := by
    intro fu
    induction fu with
    | zero => intro x1 x2 x3 σ H locs ls hP hl hF; exact nofu hF
    | succ fu ih =>
      intro x1 x2 x3 σ H locs ls hP hl hF
      rw [f13_isSound_b15] at hF
      refine r_iload_n cx dL_isSound_15 (lv_at hl 3 rfl) ?_
      refine r_aload_n cx dL_isSound_16 (lv_at hl 0 rfl) ?_
      obtain ⟨v64, hc, hF⟩ := bnd_some hF
      refine r_callVi cx hP (As := []) (w11_passCount l Γ ad A σ v64 hc) mw13_188 ⟨Nat.le_of_ble_eq_true rfl, Nat.le_of_ble_eq_true rfl⟩ (dXr (by decide)) rfl rfl rfl (Nat.le_of_ble_eq_true rfl) hl.1 ⟨Nat.zero_le _, Nat.zero_le _⟩ dL_isSound_17 (fun H locs hP => ?_)
      refine r_icmp_ge cx 289 dL_isSound_20 (by decide) hF (fun hF => ?_) (fun hF => ?_)
      · refine r_iconst cx 0 dL_isSound_289 (by decide) ?_
        refine r_istore_n cx [(3, .int 0), (0, .ref (ad 0 0)), (1, .int x1), (2, .int x2)] dL_isSound_290 hl (by decide) rfl (fun ls hl => ?_)
        exact b291 FU x1 x2 0 σ _ _ _ hP (lv_sub hl [1, 2, 3, 0] rfl) hF
      · refine r_iload_n cx dL_isSound_23 (lv_at hl 1 rfl) ?_
        refine r_aload_n cx dL_isSound_24 (lv_at hl 0 rfl) ?_
        refine r_iload_n cx dL_isSound_25 (lv_at hl 3 rfl) ?_
        obtain ⟨v65, s66, hc, hF⟩ := bns_some hF
        refine r_callWi cx hP (As := [.ref (ad 0 0), .int x3]) (wn_visitsWith l Γ ad A x3 σ v65 s66 (wn_some hc)) mz13_242 ⟨Nat.le_of_ble_eq_true rfl, Nat.le_of_ble_eq_true rfl⟩ rfl (Nat.le_of_ble_eq_true rfl) hl.1 ⟨Nat.zero_le _, Nat.zero_le _⟩ dL_isSound_26 (fun H locs hP => ?_)
        refine r_iadd cx dL_isSound_29 hF (fun v67 hF => ?_)
        refine r_istore_n cx [(1, .int v67), (0, .ref (ad 0 0)), (2, .int x2), (3, .int x3)] dL_isSound_30 hl (by decide) rfl (fun ls hl => ?_)
        refine r_iconst cx 0 dL_isSound_31 (by decide) ?_
        refine r_istore cx [(4, .int 0), (1, .int v67), (0, .ref (ad 0 0)), (2, .int x2), (3, .int x3)] dL_isSound_32 hl (by decide) rfl (fun ls hl => ?_)
        refine r_iconst cx 0 dL_isSound_34 (by decide) ?_
        refine r_istore cx [(5, .int 0), (4, .int 0), (1, .int v67), (0, .ref (ad 0 0)), (2, .int x2), (3, .int x3)] dL_isSound_35 hl (by decide) rfl (fun ls hl => ?_)
        exact b37 (f13_isSound_b15 fu) ih FU v67 x2 x3 0 0 s66 _ _ _ hP (lv_sub hl [3, 2, 4, 5, 1, 0] rfl) hF
  refine r_aload_n cx dL_isSound_0 (lv_at hl 0 rfl) ?_
  obtain ⟨v68, hc, hF⟩ := bnd_some hF
  refine r_callVi cx hP (As := []) (w11_violations l Γ ad A σ v68 hc) mw13_239 ⟨Nat.le_of_ble_eq_true rfl, Nat.le_of_ble_eq_true rfl⟩ (dXr (by decide)) rfl rfl rfl (Nat.le_of_ble_eq_true rfl) hl.1 ⟨Nat.zero_le _, Nat.zero_le _⟩ dL_isSound_1 (fun H locs hP => ?_)
  refine r_if_eq cx 9 dL_isSound_4 (by decide) hF (fun hF => ?_) (fun hF => ?_)
  · refine r_iconst cx 0 dL_isSound_9 (by decide) ?_
    refine r_istore_n cx [(1, .int 0), (0, .ref (ad 0 0))] dL_isSound_10 hl (by decide) rfl (fun ls hl => ?_)
    refine r_iconst cx 0 dL_isSound_11 (by decide) ?_
    refine r_istore_n cx [(2, .int 0), (1, .int 0), (0, .ref (ad 0 0))] dL_isSound_12 hl (by decide) rfl (fun ls hl => ?_)
    refine r_iconst cx 0 dL_isSound_13 (by decide) ?_
    refine r_istore_n cx [(3, .int 0), (2, .int 0), (1, .int 0), (0, .ref (ad 0 0))] dL_isSound_14 hl (by decide) rfl (fun ls hl => ?_)
    exact b15 FU 0 0 0 σ _ _ _ hP (lv_sub hl [3, 2, 1, 0] rfl) hF
  · refine r_iconst cx 0 dL_isSound_7 (by decide) ?_
    exact r_zret cx hP hr hk (by decide) dL_isSound_8 hF
set_option maxHeartbeats 4000000 in
set_option maxRecDepth 100000 in
theorem w13_isGuarded (l : Launch) (Γ : Wc) (ad : Nat → Nat → Nat) (A : Nat → Prop) (p1 : Int32) (p2 : Int32) (σ : Sig) (r : Int32) (σ1 : Sig) (hF : f13_isGuarded p1 p2 σ = some (r, σ1)) : MI l SX Γ ad A yL_isGuarded cL_isGuarded 10 (some .boolean) 9 156 [.ref (ad 0 0), .int p1, .int p2] σ r σ1 := by
  refine MI.of (by decide) (Nat.le_of_ble_eq_true rfl) ?_
  intro p e s m args below meth c ls cx hr hk hP hl
  have hl : lv_has ls 10 [(0, .ref (ad 0 0)), (1, .int p1), (2, .int p2)] := hl
  rw [f13_isGuarded] at hF
  generalize hH0 : s.heap = H0 at hP ⊢
  generalize ([] : List Loc) = locs0 at hP ⊢
  clear hH0
  have b186 : ∀ (x4 : Int32) (x5 : Int32) (x9 : Int32) (σ : Sig) (H : Heap) (locs : List Loc) (ls : Array Slot), PS SX Γ ad A s σ H locs → lv_has ls 10 [(0, .ref (ad 0 0)), (4, .int x4), (5, .int x5), (9, .int x9)] → f13_isGuarded_b186 x4 x5 x9 σ = some (r, σ1) → W p l e (rmz 9 156) s m args below meth c H locs 0 0 (QI SX Γ ad A below args s r σ1) (F0 m 186 ls []) := by
    intro x4 x5 x9 σ H locs ls hP hl hF
    rw [f13_isGuarded_b186] at hF
    refine r_aload_n cx dL_isGuarded_186 (lv_at hl 0 rfl) ?_
    obtain ⟨v1, s2, hc, hF⟩ := bns_some hF
    refine r_callVi cx hP (As := []) (w11_undo l Γ ad A σ v1 s2 hc) mw13_291 ⟨Nat.le_of_ble_eq_true rfl, Nat.le_of_ble_eq_true rfl⟩ (dXr (by decide)) rfl rfl rfl (Nat.le_of_ble_eq_true rfl) hl.1 ⟨Nat.zero_le _, Nat.zero_le _⟩ dL_isGuarded_187 (fun H locs hP => ?_)
    refine r_pop cx dL_isGuarded_190 rfl ?_
    refine r_iload cx dL_isGuarded_191 (lv_at hl 3 rfl) ?_
    refine r_if_eq cx 211 dL_isGuarded_193 (by decide) hF (fun hF => ?_) (fun hF => ?_)
    · refine r_iconst cx 0 dL_isGuarded_211 (by decide) ?_
      exact r_zret cx hP hr hk (by decide) dL_isGuarded_212 hF
    · refine r_aload_n cx dL_isGuarded_196 (lv_at hl 0 rfl) ?_
      refine r_iload cx dL_isGuarded_197 (lv_at hl 1 rfl) ?_
      obtain ⟨v3, s4, hc, hF⟩ := bns_some hF
      refine r_callWi cx hP (As := [.ref (ad 0 0), .int x4]) (wn_visitsWith l Γ ad A x4 s2 v3 s4 (wn_some hc)) mz13_242 ⟨Nat.le_of_ble_eq_true rfl, Nat.le_of_ble_eq_true rfl⟩ rfl (Nat.le_of_ble_eq_true rfl) hl.1 ⟨Nat.zero_le _, Nat.zero_le _⟩ dL_isGuarded_199 (fun H locs hP => ?_)
      refine r_iload cx dL_isGuarded_202 (lv_at hl 2 rfl) ?_
      refine r_icmp_ne cx 211 dL_isGuarded_204 (by decide) hF (fun hF => ?_) (fun hF => ?_)
      · refine r_iconst cx 0 dL_isGuarded_211 (by decide) ?_
        exact r_zret cx hP hr hk (by decide) dL_isGuarded_212 hF
      · refine r_iconst cx 1 dL_isGuarded_207 (by decide) ?_
        refine r_goto cx 212 dL_isGuarded_208 (by decide) ?_
        exact r_zret cx hP hr hk (by decide) dL_isGuarded_212 hF
  have b183 : ∀ (x4 : Int32) (x5 : Int32) (t0 : Int32) (t1 : Int32) (σ : Sig) (H : Heap) (locs : List Loc) (ls : Array Slot), PS SX Γ ad A s σ H locs → lv_has ls 10 [(0, .ref (ad 0 0)), (4, .int x4), (5, .int x5)] → f13_isGuarded_b183 x4 x5 t0 t1 σ = some (r, σ1) → W p l e (rmz 9 156) s m args below meth c H locs 0 0 (QI SX Γ ad A below args s r σ1) (F0 m 183 ls [.int t1, .int t0]) := by
    intro x4 x5 t0 t1 σ H locs ls hP hl hF
    rw [f13_isGuarded_b183] at hF
    refine r_iand cx dL_isGuarded_183 hF (fun v5 hF => ?_)
    refine r_istore cx [(9, .int v5), (0, .ref (ad 0 0)), (4, .int x4), (5, .int x5)] dL_isGuarded_184 hl (by decide) rfl (fun ls hl => ?_)
    exact b186 x4 x5 v5 σ _ _ _ hP (lv_sub hl [1, 2, 3, 0] rfl) hF
  have b182 : ∀ (x4 : Int32) (x5 : Int32) (t0 : Int32) (σ : Sig) (H : Heap) (locs : List Loc) (ls : Array Slot), PS SX Γ ad A s σ H locs → lv_has ls 10 [(0, .ref (ad 0 0)), (4, .int x4), (5, .int x5)] → f13_isGuarded_b182 x4 x5 t0 σ = some (r, σ1) → W p l e (rmz 9 156) s m args below meth c H locs 0 0 (QI SX Γ ad A below args s r σ1) (F0 m 182 ls [.int t0]) := by
    intro x4 x5 t0 σ H locs ls hP hl hF
    rw [f13_isGuarded_b182] at hF
    refine r_iconst cx 0 dL_isGuarded_182 (by decide) ?_
    exact b183 x4 x5 t0 0 σ _ _ _ hP (lv_sub hl [0, 1, 2] rfl) hF
  have b118 : ∀ (x1 : Int32) (x3 : Int32) (x4 : Int32) (x5 : Int32) (t0 : Int32) (σ : Sig) (H : Heap) (locs : List Loc) (ls : Array Slot), PS SX Γ ad A s σ H locs → lv_has ls 10 [(0, .ref (ad 0 0)), (1, .int x1), (3, .int x3), (4, .int x4), (5, .int x5)] → f13_isGuarded_b118 x1 x3 x4 x5 t0 σ = some (r, σ1) → W p l e (rmz 9 156) s m args below meth c H locs 0 0 (QI SX Γ ad A below args s r σ1) (F0 m 118 ls [.int t0]) := by
    intro x1 x3 x4 x5 t0 σ H locs ls hP hl hF
    rw [f13_isGuarded_b118] at hF
    refine r_istore cx [(9, .int t0), (0, .ref (ad 0 0)), (1, .int x1), (3, .int x3), (4, .int x4), (5, .int x5)] dL_isGuarded_118 hl (by decide) rfl (fun ls hl => ?_)
    refine r_iload_n cx dL_isGuarded_120 (lv_at hl 3 rfl) ?_
    refine r_if_ne cx 186 dL_isGuarded_121 (by decide) hF (fun hF => ?_) (fun hF => ?_)
    · exact b186 x4 x5 t0 σ _ _ _ hP (lv_sub hl [1, 4, 5, 0] rfl) hF
    · refine r_iload cx dL_isGuarded_124 (lv_at hl 0 rfl) ?_
      refine r_aload_n cx dL_isGuarded_126 (lv_at hl 1 rfl) ?_
      obtain ⟨v6, hc, hF⟩ := bnd_some hF
      refine r_callVi cx hP (As := []) (w11_isOpen l Γ ad A σ v6 hc) mw13_282 ⟨Nat.le_of_ble_eq_true rfl, Nat.le_of_ble_eq_true rfl⟩ (dXr (by decide)) rfl rfl rfl (Nat.le_of_ble_eq_true rfl) hl.1 ⟨Nat.zero_le _, Nat.zero_le _⟩ dL_isGuarded_127 (fun H locs hP => ?_)
      refine r_if_eq cx 182 dL_isGuarded_130 (by decide) hF (fun hF => ?_) (fun hF => ?_)
      · exact b182 x4 x5 t0 σ _ _ _ hP (lv_sub hl [1, 4, 5] rfl) hF
      · refine r_aload_n cx dL_isGuarded_133 (lv_at hl 1 rfl) ?_
        refine r_iload_n cx dL_isGuarded_134 (lv_at hl 2 rfl) ?_
        obtain ⟨v7, s8, hc, hF⟩ := bns_some hF
        refine r_callWi cx hP (As := [.ref (ad 0 0), .int x1]) (wn_isBlocked l Γ ad A x1 σ v7 s8 (wn_some hc)) mz13_246 ⟨Nat.le_of_ble_eq_true rfl, Nat.le_of_ble_eq_true rfl⟩ rfl (Nat.le_of_ble_eq_true rfl) hl.1 ⟨Nat.zero_le _, Nat.zero_le _⟩ dL_isGuarded_135 (fun H locs hP => ?_)
        refine r_if_ne cx 182 dL_isGuarded_138 (by decide) hF (fun hF => ?_) (fun hF => ?_)
        · exact b182 x4 x5 t0 s8 _ _ _ hP (lv_sub hl [1, 4, 5] rfl) hF
        · refine r_aload_n cx dL_isGuarded_141 (lv_at hl 1 rfl) ?_
          obtain ⟨v9, hc, hF⟩ := bnd_some hF
          refine r_callVi cx hP (As := []) (w11_day l Γ ad A s8 v9 hc) mw13_200 ⟨Nat.le_of_ble_eq_true rfl, Nat.le_of_ble_eq_true rfl⟩ (dXr (by decide)) rfl rfl rfl (Nat.le_of_ble_eq_true rfl) hl.1 ⟨Nat.zero_le _, Nat.zero_le _⟩ dL_isGuarded_142 (fun H locs hP => ?_)
          refine r_aload_n cx dL_isGuarded_145 (lv_at hl 1 rfl) ?_
          refine r_iload cx dL_isGuarded_146 (lv_at hl 4 rfl) ?_
          obtain ⟨v10, s11, hc, hF⟩ := bns_some hF
          refine r_callWi cx hP (As := [.ref (ad 0 0), .int x4]) (wn_firstDay l Γ ad A x4 s8 v10 s11 (wn_some hc)) mz13_257 ⟨Nat.le_of_ble_eq_true rfl, Nat.le_of_ble_eq_true rfl⟩ rfl (Nat.le_of_ble_eq_true rfl) hl.1 ⟨Nat.zero_le _, Nat.zero_le _⟩ dL_isGuarded_148 (fun H locs hP => ?_)
          refine r_icmp_lt cx 182 dL_isGuarded_151 (by decide) hF (fun hF => ?_) (fun hF => ?_)
          · exact b182 x4 x5 t0 s11 _ _ _ hP (lv_sub hl [1, 4, 5] rfl) hF
          · refine r_aload_n cx dL_isGuarded_154 (lv_at hl 1 rfl) ?_
            obtain ⟨v12, hc, hF⟩ := bnd_some hF
            refine r_callVi cx hP (As := []) (w11_day l Γ ad A s11 v12 hc) mw13_200 ⟨Nat.le_of_ble_eq_true rfl, Nat.le_of_ble_eq_true rfl⟩ (dXr (by decide)) rfl rfl rfl (Nat.le_of_ble_eq_true rfl) hl.1 ⟨Nat.zero_le _, Nat.zero_le _⟩ dL_isGuarded_155 (fun H locs hP => ?_)
            refine r_aload_n cx dL_isGuarded_158 (lv_at hl 1 rfl) ?_
            refine r_iload cx dL_isGuarded_159 (lv_at hl 4 rfl) ?_
            obtain ⟨v13, s14, hc, hF⟩ := bns_some hF
            refine r_callWi cx hP (As := [.ref (ad 0 0), .int x4]) (wn_lastDay l Γ ad A x4 s11 v13 s14 (wn_some hc)) mz13_255 ⟨Nat.le_of_ble_eq_true rfl, Nat.le_of_ble_eq_true rfl⟩ rfl (Nat.le_of_ble_eq_true rfl) hl.1 ⟨Nat.zero_le _, Nat.zero_le _⟩ dL_isGuarded_161 (fun H locs hP => ?_)
            refine r_icmp_gt cx 182 dL_isGuarded_164 (by decide) hF (fun hF => ?_) (fun hF => ?_)
            · exact b182 x4 x5 t0 s14 _ _ _ hP (lv_sub hl [1, 4, 5] rfl) hF
            · refine r_aload_n cx dL_isGuarded_167 (lv_at hl 1 rfl) ?_
              refine r_iload cx dL_isGuarded_168 (lv_at hl 4 rfl) ?_
              obtain ⟨v15, s16, hc, hF⟩ := bns_some hF
              refine r_callWi cx hP (As := [.ref (ad 0 0), .int x4]) (wn_owed l Γ ad A x4 s14 v15 s16 (wn_some hc)) mz13_261 ⟨Nat.le_of_ble_eq_true rfl, Nat.le_of_ble_eq_true rfl⟩ rfl (Nat.le_of_ble_eq_true rfl) hl.1 ⟨Nat.zero_le _, Nat.zero_le _⟩ dL_isGuarded_170 (fun H locs hP => ?_)
              refine r_bipush cx 30 dL_isGuarded_173 (by decide) ?_
              refine r_icmp_gt cx 182 dL_isGuarded_175 (by decide) hF (fun hF => ?_) (fun hF => ?_)
              · exact b182 x4 x5 t0 s16 _ _ _ hP (lv_sub hl [1, 4, 5] rfl) hF
              · refine r_iconst cx 1 dL_isGuarded_178 (by decide) ?_
                refine r_goto cx 183 dL_isGuarded_179 (by decide) ?_
                exact b183 x4 x5 t0 1 s16 _ _ _ hP (lv_sub hl [1, 4, 5] rfl) hF
  have b117 : ∀ (x1 : Int32) (x3 : Int32) (x4 : Int32) (x5 : Int32) (σ : Sig) (H : Heap) (locs : List Loc) (ls : Array Slot), PS SX Γ ad A s σ H locs → lv_has ls 10 [(0, .ref (ad 0 0)), (1, .int x1), (3, .int x3), (4, .int x4), (5, .int x5)] → f13_isGuarded_b117 x1 x3 x4 x5 σ = some (r, σ1) → W p l e (rmz 9 156) s m args below meth c H locs 0 0 (QI SX Γ ad A below args s r σ1) (F0 m 117 ls []) := by
    intro x1 x3 x4 x5 σ H locs ls hP hl hF
    rw [f13_isGuarded_b117] at hF
    refine r_iconst cx 0 dL_isGuarded_117 (by decide) ?_
    exact b118 x1 x3 x4 x5 0 σ _ _ _ hP (lv_sub hl [0, 1, 2, 3, 4] rfl) hF
  have b110 : ∀ (x1 : Int32) (x3 : Int32) (x4 : Int32) (x5 : Int32) (t0 : Int32) (t1 : Int32) (σ : Sig) (H : Heap) (locs : List Loc) (ls : Array Slot), PS SX Γ ad A s σ H locs → lv_has ls 10 [(0, .ref (ad 0 0)), (1, .int x1), (3, .int x3), (4, .int x4), (5, .int x5)] → f13_isGuarded_b110 x1 x3 x4 x5 t0 t1 σ = some (r, σ1) → W p l e (rmz 9 156) s m args below meth c H locs 0 0 (QI SX Γ ad A below args s r σ1) (F0 m 110 ls [.int t1, .int t0]) := by
    intro x1 x3 x4 x5 t0 t1 σ H locs ls hP hl hF
    rw [f13_isGuarded_b110] at hF
    refine r_icmp_ne cx 117 dL_isGuarded_110 (by decide) hF (fun hF => ?_) (fun hF => ?_)
    · exact b117 x1 x3 x4 x5 σ _ _ _ hP (lv_sub hl [0, 1, 2, 3, 4] rfl) hF
    · refine r_iconst cx 1 dL_isGuarded_113 (by decide) ?_
      refine r_goto cx 118 dL_isGuarded_114 (by decide) ?_
      exact b118 x1 x3 x4 x5 1 σ _ _ _ hP (lv_sub hl [0, 1, 2, 3, 4] rfl) hF
  have b89 : ∀ (x1 : Int32) (x3 : Int32) (x4 : Int32) (x5 : Int32) (x7 : Int32) (t0 : Int32) (t1 : Int32) (σ : Sig) (H : Heap) (locs : List Loc) (ls : Array Slot), PS SX Γ ad A s σ H locs → lv_has ls 10 [(0, .ref (ad 0 0)), (1, .int x1), (3, .int x3), (4, .int x4), (5, .int x5), (7, .int x7)] → f13_isGuarded_b89 x1 x3 x4 x5 x7 t0 t1 σ = some (r, σ1) → W p l e (rmz 9 156) s m args below meth c H locs 0 0 (QI SX Γ ad A below args s r σ1) (F0 m 89 ls [.int t1, .int t0]) := by
    intro x1 x3 x4 x5 x7 t0 t1 σ H locs ls hP hl hF
    rw [f13_isGuarded_b89] at hF
    refine r_icmp_ne cx 117 dL_isGuarded_89 (by decide) hF (fun hF => ?_) (fun hF => ?_)
    · exact b117 x1 x3 x4 x5 σ _ _ _ hP (lv_sub hl [0, 1, 2, 3, 4] rfl) hF
    · refine r_aload_n cx dL_isGuarded_92 (lv_at hl 0 rfl) ?_
      obtain ⟨v17, hc, hF⟩ := bnd_some hF
      refine r_callVi cx hP (As := []) (w11_alarms l Γ ad A σ v17 hc) mw13_288 ⟨Nat.le_of_ble_eq_true rfl, Nat.le_of_ble_eq_true rfl⟩ (dXr (by decide)) rfl rfl rfl (Nat.le_of_ble_eq_true rfl) hl.1 ⟨Nat.zero_le _, Nat.zero_le _⟩ dL_isGuarded_93 (fun H locs hP => ?_)
      refine r_iload_n cx dL_isGuarded_96 (lv_at hl 2 rfl) ?_
      refine r_iconst cx 2 dL_isGuarded_97 (by decide) ?_
      refine r_icmp_ne cx 108 dL_isGuarded_98 (by decide) hF (fun hF => ?_) (fun hF => ?_)
      · refine r_iload cx dL_isGuarded_108 (lv_at hl 5 rfl) ?_
        exact b110 x1 x3 x4 x5 v17 x7 σ _ _ _ hP (lv_sub hl [0, 1, 2, 3, 4] rfl) hF
      · refine r_iload cx dL_isGuarded_101 (lv_at hl 5 rfl) ?_
        refine r_iconst cx 1 dL_isGuarded_103 (by decide) ?_
        refine r_iadd cx dL_isGuarded_104 hF (fun v18 hF => ?_)
        refine r_goto cx 110 dL_isGuarded_105 (by decide) ?_
        exact b110 x1 x3 x4 x5 v17 v18 σ _ _ _ hP (lv_sub hl [0, 1, 2, 3, 4] rfl) hF
  have b68 : ∀ (x1 : Int32) (x2 : Int32) (x3 : Int32) (x4 : Int32) (x5 : Int32) (x6 : Int32) (x7 : Int32) (t0 : Int32) (t1 : Int32) (σ : Sig) (H : Heap) (locs : List Loc) (ls : Array Slot), PS SX Γ ad A s σ H locs → lv_has ls 10 [(0, .ref (ad 0 0)), (1, .int x1), (2, .int x2), (3, .int x3), (4, .int x4), (5, .int x5), (6, .int x6), (7, .int x7)] → f13_isGuarded_b68 x1 x2 x3 x4 x5 x6 x7 t0 t1 σ = some (r, σ1) → W p l e (rmz 9 156) s m args below meth c H locs 0 0 (QI SX Γ ad A below args s r σ1) (F0 m 68 ls [.int t1, .int t0]) := by
    intro x1 x2 x3 x4 x5 x6 x7 t0 t1 σ H locs ls hP hl hF
    rw [f13_isGuarded_b68] at hF
    refine r_icmp_ne cx 117 dL_isGuarded_68 (by decide) hF (fun hF => ?_) (fun hF => ?_)
    · exact b117 x1 x3 x4 x5 σ _ _ _ hP (lv_sub hl [0, 1, 3, 4, 5] rfl) hF
    · refine r_aload_n cx dL_isGuarded_71 (lv_at hl 0 rfl) ?_
      refine r_iload_n cx dL_isGuarded_72 (lv_at hl 2 rfl) ?_
      obtain ⟨v19, s20, hc, hF⟩ := bns_some hF
      refine r_callWi cx hP (As := [.ref (ad 0 0), .int x2]) (wn_placesLeft l Γ ad A x2 σ v19 s20 (wn_some hc)) mz13_271 ⟨Nat.le_of_ble_eq_true rfl, Nat.le_of_ble_eq_true rfl⟩ rfl (Nat.le_of_ble_eq_true rfl) hl.1 ⟨Nat.zero_le _, Nat.zero_le _⟩ dL_isGuarded_73 (fun H locs hP => ?_)
      refine r_iload_n cx dL_isGuarded_76 (lv_at hl 3 rfl) ?_
      refine r_if_ne cx 87 dL_isGuarded_77 (by decide) hF (fun hF => ?_) (fun hF => ?_)
      · refine r_iload cx dL_isGuarded_87 (lv_at hl 6 rfl) ?_
        exact b89 x1 x3 x4 x5 x7 v19 x6 s20 _ _ _ hP (lv_sub hl [0, 1, 3, 4, 5, 7] rfl) hF
      · refine r_iload cx dL_isGuarded_80 (lv_at hl 6 rfl) ?_
        refine r_iconst cx 1 dL_isGuarded_82 (by decide) ?_
        refine r_isub cx dL_isGuarded_83 hF (fun v21 hF => ?_)
        refine r_goto cx 89 dL_isGuarded_84 (by decide) ?_
        exact b89 x1 x3 x4 x5 x7 v19 v21 s20 _ _ _ hP (lv_sub hl [0, 1, 3, 4, 5, 7] rfl) hF
  refine r_aload_n cx dL_isGuarded_0 (lv_at hl 0 rfl) ?_
  refine r_iload_n cx dL_isGuarded_1 (lv_at hl 1 rfl) ?_
  refine r_iload_n cx dL_isGuarded_2 (lv_at hl 2 rfl) ?_
  obtain ⟨v22, s23, hc, hF⟩ := bns_some hF
  refine r_callWi cx hP (As := [.ref (ad 0 0), .int p1, .int p2]) (wn_whyRefused l Γ ad A p1 p2 σ v22 s23 (wn_some hc)) mz13_286 ⟨Nat.le_of_ble_eq_true rfl, Nat.le_of_ble_eq_true rfl⟩ rfl (Nat.le_of_ble_eq_true rfl) hl.1 ⟨Nat.zero_le _, Nat.zero_le _⟩ dL_isGuarded_3 (fun H locs hP => ?_)
  refine r_istore_n cx [(3, .int v22), (0, .ref (ad 0 0)), (1, .int p1), (2, .int p2)] dL_isGuarded_6 hl (by decide) rfl (fun ls hl => ?_)
  refine r_aload_n cx dL_isGuarded_7 (lv_at hl 1 rfl) ?_
  refine r_iload_n cx dL_isGuarded_8 (lv_at hl 2 rfl) ?_
  obtain ⟨v24, s25, hc, hF⟩ := bns_some hF
  refine r_callWi cx hP (As := [.ref (ad 0 0), .int p1]) (wn_passOf l Γ ad A p1 s23 v24 s25 (wn_some hc)) mz13_244 ⟨Nat.le_of_ble_eq_true rfl, Nat.le_of_ble_eq_true rfl⟩ rfl (Nat.le_of_ble_eq_true rfl) hl.1 ⟨Nat.zero_le _, Nat.zero_le _⟩ dL_isGuarded_9 (fun H locs hP => ?_)
  refine r_istore cx [(4, .int v24), (3, .int v22), (0, .ref (ad 0 0)), (1, .int p1), (2, .int p2)] dL_isGuarded_12 hl (by decide) rfl (fun ls hl => ?_)
  refine r_aload_n cx dL_isGuarded_14 (lv_at hl 2 rfl) ?_
  refine r_iload cx dL_isGuarded_15 (lv_at hl 0 rfl) ?_
  obtain ⟨v26, s27, hc, hF⟩ := bns_some hF
  refine r_callWi cx hP (As := [.ref (ad 0 0), .int v24]) (wn_visitsWith l Γ ad A v24 s25 v26 s27 (wn_some hc)) mz13_242 ⟨Nat.le_of_ble_eq_true rfl, Nat.le_of_ble_eq_true rfl⟩ rfl (Nat.le_of_ble_eq_true rfl) hl.1 ⟨Nat.zero_le _, Nat.zero_le _⟩ dL_isGuarded_17 (fun H locs hP => ?_)
  refine r_istore cx [(5, .int v26), (4, .int v24), (3, .int v22), (0, .ref (ad 0 0)), (1, .int p1), (2, .int p2)] dL_isGuarded_20 hl (by decide) rfl (fun ls hl => ?_)
  refine r_aload_n cx dL_isGuarded_22 (lv_at hl 3 rfl) ?_
  refine r_iload_n cx dL_isGuarded_23 (lv_at hl 5 rfl) ?_
  obtain ⟨v28, s29, hc, hF⟩ := bns_some hF
  refine r_callWi cx hP (As := [.ref (ad 0 0), .int p2]) (wn_placesLeft l Γ ad A p2 s27 v28 s29 (wn_some hc)) mz13_271 ⟨Nat.le_of_ble_eq_true rfl, Nat.le_of_ble_eq_true rfl⟩ rfl (Nat.le_of_ble_eq_true rfl) hl.1 ⟨Nat.zero_le _, Nat.zero_le _⟩ dL_isGuarded_24 (fun H locs hP => ?_)
  refine r_istore cx [(6, .int v28), (5, .int v26), (4, .int v24), (3, .int v22), (0, .ref (ad 0 0)), (1, .int p1), (2, .int p2)] dL_isGuarded_27 hl (by decide) rfl (fun ls hl => ?_)
  refine r_aload_n cx dL_isGuarded_29 (lv_at hl 4 rfl) ?_
  obtain ⟨v30, hc, hF⟩ := bnd_some hF
  refine r_callVi cx hP (As := []) (w11_alarms l Γ ad A s29 v30 hc) mw13_288 ⟨Nat.le_of_ble_eq_true rfl, Nat.le_of_ble_eq_true rfl⟩ (dXr (by decide)) rfl rfl rfl (Nat.le_of_ble_eq_true rfl) hl.1 ⟨Nat.zero_le _, Nat.zero_le _⟩ dL_isGuarded_30 (fun H locs hP => ?_)
  refine r_istore cx [(7, .int v30), (6, .int v28), (5, .int v26), (4, .int v24), (3, .int v22), (0, .ref (ad 0 0)), (1, .int p1), (2, .int p2)] dL_isGuarded_33 hl (by decide) rfl (fun ls hl => ?_)
  refine r_aload_n cx dL_isGuarded_35 (lv_at hl 5 rfl) ?_
  refine r_iload_n cx dL_isGuarded_36 (lv_at hl 6 rfl) ?_
  refine r_iload_n cx dL_isGuarded_37 (lv_at hl 7 rfl) ?_
  obtain ⟨v31, s32, hc, hF⟩ := bns_some hF
  refine r_callWi cx hP (As := [.ref (ad 0 0), .int p1, .int p2]) (wn_visit l Γ ad A p1 p2 s29 v31 s32 (wn_some hc)) mz13_206 ⟨Nat.le_of_ble_eq_true rfl, Nat.le_of_ble_eq_true rfl⟩ rfl (Nat.le_of_ble_eq_true rfl) hl.1 ⟨Nat.zero_le _, Nat.zero_le _⟩ dL_isGuarded_38 (fun H locs hP => ?_)
  refine r_istore cx [(8, .int v31), (7, .int v30), (6, .int v28), (5, .int v26), (4, .int v24), (3, .int v22), (0, .ref (ad 0 0)), (1, .int p1), (2, .int p2)] dL_isGuarded_41 hl (by decide) rfl (fun ls hl => ?_)
  refine r_iload cx dL_isGuarded_43 (lv_at hl 0 rfl) ?_
  refine r_iload_n cx dL_isGuarded_45 (lv_at hl 5 rfl) ?_
  refine r_icmp_ne cx 117 dL_isGuarded_46 (by decide) hF (fun hF => ?_) (fun hF => ?_)
  · exact b117 p1 v22 v24 v26 s32 _ _ _ hP (lv_sub hl [6, 7, 5, 4, 3] rfl) hF
  · refine r_aload_n cx dL_isGuarded_49 (lv_at hl 6 rfl) ?_
    refine r_iload cx dL_isGuarded_50 (lv_at hl 4 rfl) ?_
    obtain ⟨v33, s34, hc, hF⟩ := bns_some hF
    refine r_callWi cx hP (As := [.ref (ad 0 0), .int v24]) (wn_visitsWith l Γ ad A v24 s32 v33 s34 (wn_some hc)) mz13_242 ⟨Nat.le_of_ble_eq_true rfl, Nat.le_of_ble_eq_true rfl⟩ rfl (Nat.le_of_ble_eq_true rfl) hl.1 ⟨Nat.zero_le _, Nat.zero_le _⟩ dL_isGuarded_52 (fun H locs hP => ?_)
    refine r_iload_n cx dL_isGuarded_55 (lv_at hl 5 rfl) ?_
    refine r_if_ne cx 66 dL_isGuarded_56 (by decide) hF (fun hF => ?_) (fun hF => ?_)
    · refine r_iload cx dL_isGuarded_66 (lv_at hl 3 rfl) ?_
      exact b68 p1 p2 v22 v24 v26 v28 v30 v33 v26 s34 _ _ _ hP (lv_sub hl [6, 7, 8, 5, 4, 3, 2, 1] rfl) hF
    · refine r_iload cx dL_isGuarded_59 (lv_at hl 3 rfl) ?_
      refine r_iconst cx 1 dL_isGuarded_61 (by decide) ?_
      refine r_iadd cx dL_isGuarded_62 hF (fun v35 hF => ?_)
      refine r_goto cx 68 dL_isGuarded_63 (by decide) ?_
      exact b68 p1 p2 v22 v24 v26 v28 v30 v33 v35 s34 _ _ _ hP (lv_sub hl [6, 7, 8, 5, 4, 3, 2, 1] rfl) hF
set_option maxHeartbeats 4000000 in
set_option maxRecDepth 100000 in
theorem w13_seen (l : Launch) (Γ : Wc) (ad : Nat → Nat → Nat) (A : Nat → Prop)  (σ : Sig) (r : Int64) (σ1 : Sig) (hF : f13_seen  σ = some (r, σ1)) : ML l SX Γ ad A yL_seen cL_seen 4 9 154 [.ref (ad 0 0)] σ r σ1 := by
  refine ML.of (by decide) (Nat.le_of_ble_eq_true rfl) ?_
  intro p e s m args below meth c ls cx hr hk hP hl
  have hl : lv_has ls 4 [(0, .ref (ad 0 0))] := hl
  rw [f13_seen] at hF
  generalize hH0 : s.heap = H0 at hP ⊢
  generalize ([] : List Loc) = locs0 at hP ⊢
  clear hH0
  have b79 : ∀ (rc34 : Int64 → Int32 → Sig → Option (Int64 × Sig)) (ih34 : ∀ (xl1 : Int64) (x3 : Int32) (σ : Sig) (H : Heap) (locs : List Loc) (ls : Array Slot), PS SX Γ ad A s σ H locs → lv_has ls 4 [(0, .ref (ad 0 0)), (1, .long xl1), (3, .int x3)] → rc34 xl1 x3 σ = some (r, σ1) → W p l e (rmz 9 154) s m args below meth c H locs 0 0 (QL SX Γ ad A below args s r σ1) (F0 m 34 ls [])) (x3 : Int32) (tl0 : Int64) (t1 : Int32) (σ : Sig) (H : Heap) (locs : List Loc) (ls : Array Slot), PS SX Γ ad A s σ H locs → lv_has ls 4 [(0, .ref (ad 0 0)), (3, .int x3)] → f13_seen_b79 rc34 x3 tl0 t1 σ = some (r, σ1) → W p l e (rmz 9 154) s m args below meth c H locs 0 0 (QL SX Γ ad A below args s r σ1) (F0 m 79 ls [.int t1, .long tl0]) := by
    intro rc34 ih34 x3 tl0 t1 σ H locs ls hP hl hF
    rw [f13_seen_b79] at hF
    refine r_i2l cx dL_seen_79 hF (fun z1 hF => ?_)
    refine r_ladd cx dL_seen_80 hF (fun z2 hF => ?_)
    refine lv_lstore_n (lv' := [(1, .long z2), (0, .ref (ad 0 0)), (3, .int x3)]) cx.1 cx.2.1 dL_seen_81 rfl hl (by decide) rfl (fun ls hl => ?_)
    refine r_iinc cx (k := 2) (w := 1) (fun v3 => [(3, .int v3), (1, .long z2), (0, .ref (ad 0 0))]) dL_seen_82 hl rfl (by decide) (by decide) hF (fun _ => rfl) (fun v3 ls hF hl => ?_)
    refine r_goto cx 34 dL_seen_85 (by decide) ?_
    exact ih34 z2 v3 σ _ _ _ hP (lv_sub hl [2, 1, 0] rfl) hF
  have b90 : ∀ (fu : Nat) (xl1 : Int64) (x3 : Int32) (σ : Sig) (H : Heap) (locs : List Loc) (ls : Array Slot), PS SX Γ ad A s σ H locs → lv_has ls 4 [(0, .ref (ad 0 0)), (1, .long xl1), (3, .int x3)] → f13_seen_b90 fu xl1 x3 σ = some (r, σ1) → W p l e (rmz 9 154) s m args below meth c H locs 0 0 (QL SX Γ ad A below args s r σ1) (F0 m 90 ls []) := by
    intro fu
    induction fu with
    | zero => intro xl1 x3 σ H locs ls hP hl hF; exact nofu hF
    | succ fu ih =>
      intro xl1 x3 σ H locs ls hP hl hF
      rw [f13_seen_b90] at hF
      refine r_iload_n cx dL_seen_90 (lv_at hl 2 rfl) ?_
      refine r_aload_n cx dL_seen_91 (lv_at hl 0 rfl) ?_
      obtain ⟨v4, hc, hF⟩ := bnd_some hF
      refine r_callVi cx hP (As := []) (w11_passCount l Γ ad A σ v4 hc) mw13_188 ⟨Nat.le_of_ble_eq_true rfl, Nat.le_of_ble_eq_true rfl⟩ (dXr (by decide)) rfl rfl rfl (Nat.le_of_ble_eq_true rfl) hl.1 ⟨Nat.zero_le _, Nat.zero_le _⟩ dL_seen_92 (fun H locs hP => ?_)
      refine r_icmp_ge cx 137 dL_seen_95 (by decide) hF (fun hF => ?_) (fun hF => ?_)
      · refine lv_lload_n cx.1 cx.2.1 dL_seen_137 rfl (lv_at hl 1 rfl) ?_
        exact r_lret cx hP hr hk dL_seen_138 hF
      · refine lv_ldc2 cx.1 cx.2.1 cx.hown (cx.hts _ kl13_297) dL_seen_98 ?_
        refine lv_lload_n cx.1 cx.2.1 dL_seen_101 rfl (lv_at hl 1 rfl) ?_
        refine r_lmul cx dL_seen_102 hF (fun z5 hF => ?_)
        refine r_aload_n cx dL_seen_103 (lv_at hl 0 rfl) ?_
        refine r_iload_n cx dL_seen_104 (lv_at hl 2 rfl) ?_
        obtain ⟨v6, s7, hc, hF⟩ := bns_some hF
        refine r_callWi cx hP (As := [.ref (ad 0 0), .int x3]) (wn_refundOf l Γ ad A x3 σ v6 s7 (wn_some hc)) mz13_253 ⟨Nat.le_of_ble_eq_true rfl, Nat.le_of_ble_eq_true rfl⟩ rfl (Nat.le_of_ble_eq_true rfl) hl.1 ⟨Nat.zero_le _, Nat.zero_le _⟩ dL_seen_105 (fun H locs hP => ?_)
        refine r_i2l cx dL_seen_108 hF (fun z8 hF => ?_)
        refine r_ladd cx dL_seen_109 hF (fun z9 hF => ?_)
        refine r_bipush cx 7 dL_seen_110 (by decide) ?_
        refine r_aload_n cx dL_seen_112 (lv_at hl 0 rfl) ?_
        refine r_iload_n cx dL_seen_113 (lv_at hl 2 rfl) ?_
        obtain ⟨v10, s11, hc, hF⟩ := bns_some hF
        refine r_callWi cx hP (As := [.ref (ad 0 0), .int x3]) (wn_ticksUntilReady l Γ ad A x3 s7 v10 s11 (wn_some hc)) mz13_265 ⟨Nat.le_of_ble_eq_true rfl, Nat.le_of_ble_eq_true rfl⟩ rfl (Nat.le_of_ble_eq_true rfl) hl.1 ⟨Nat.zero_le _, Nat.zero_le _⟩ dL_seen_114 (fun H locs hP => ?_)
        refine r_imul cx dL_seen_117 hF (fun v12 hF => ?_)
        refine r_i2l cx dL_seen_118 hF (fun z13 hF => ?_)
        refine r_ladd cx dL_seen_119 hF (fun z14 hF => ?_)
        refine r_bipush cx 13 dL_seen_120 (by decide) ?_
        refine r_aload_n cx dL_seen_122 (lv_at hl 0 rfl) ?_
        refine r_iload_n cx dL_seen_123 (lv_at hl 2 rfl) ?_
        obtain ⟨v15, s16, hc, hF⟩ := bns_some hF
        refine r_callWi cx hP (As := [.ref (ad 0 0), .int x3]) (wn_owed l Γ ad A x3 s11 v15 s16 (wn_some hc)) mz13_261 ⟨Nat.le_of_ble_eq_true rfl, Nat.le_of_ble_eq_true rfl⟩ rfl (Nat.le_of_ble_eq_true rfl) hl.1 ⟨Nat.zero_le _, Nat.zero_le _⟩ dL_seen_124 (fun H locs hP => ?_)
        refine r_imul cx dL_seen_127 hF (fun v17 hF => ?_)
        refine r_i2l cx dL_seen_128 hF (fun z18 hF => ?_)
        refine r_ladd cx dL_seen_129 hF (fun z19 hF => ?_)
        refine lv_lstore_n (lv' := [(1, .long z19), (0, .ref (ad 0 0)), (3, .int x3)]) cx.1 cx.2.1 dL_seen_130 rfl hl (by decide) rfl (fun ls hl => ?_)
        refine r_iinc cx (k := 2) (w := 1) (fun v20 => [(3, .int v20), (1, .long z19), (0, .ref (ad 0 0))]) dL_seen_131 hl rfl (by decide) (by decide) hF (fun _ => rfl) (fun v20 ls hF hl => ?_)
        refine r_goto cx 90 dL_seen_134 (by decide) ?_
        exact ih z19 v20 s16 _ _ _ hP (lv_sub hl [2, 1, 0] rfl) hF
  have b34 : ∀ (fu : Nat) (xl1 : Int64) (x3 : Int32) (σ : Sig) (H : Heap) (locs : List Loc) (ls : Array Slot), PS SX Γ ad A s σ H locs → lv_has ls 4 [(0, .ref (ad 0 0)), (1, .long xl1), (3, .int x3)] → f13_seen_b34 fu xl1 x3 σ = some (r, σ1) → W p l e (rmz 9 154) s m args below meth c H locs 0 0 (QL SX Γ ad A below args s r σ1) (F0 m 34 ls []) := by
    intro fu
    induction fu with
    | zero => intro xl1 x3 σ H locs ls hP hl hF; exact nofu hF
    | succ fu ih =>
      intro xl1 x3 σ H locs ls hP hl hF
      rw [f13_seen_b34] at hF
      refine r_iload_n cx dL_seen_34 (lv_at hl 2 rfl) ?_
      refine r_aload_n cx dL_seen_35 (lv_at hl 0 rfl) ?_
      obtain ⟨v21, hc, hF⟩ := bnd_some hF
      refine r_callVi cx hP (As := []) (w11_bedCount l Γ ad A σ v21 hc) mw13_197 ⟨Nat.le_of_ble_eq_true rfl, Nat.le_of_ble_eq_true rfl⟩ (dXr (by decide)) rfl rfl rfl (Nat.le_of_ble_eq_true rfl) hl.1 ⟨Nat.zero_le _, Nat.zero_le _⟩ dL_seen_36 (fun H locs hP => ?_)
      refine r_icmp_ge cx 88 dL_seen_39 (by decide) hF (fun hF => ?_) (fun hF => ?_)
      · refine r_iconst cx 0 dL_seen_88 (by decide) ?_
        refine r_istore_n cx [(3, .int 0), (0, .ref (ad 0 0)), (1, .long xl1)] dL_seen_89 hl (by decide) rfl (fun ls hl => ?_)
        exact b90 FU xl1 0 σ _ _ _ hP (lv_sub hl [1, 2, 0] rfl) hF
      · refine lv_ldc2 cx.1 cx.2.1 cx.hown (cx.hts _ kl13_297) dL_seen_42 ?_
        refine lv_lload_n cx.1 cx.2.1 dL_seen_45 rfl (lv_at hl 1 rfl) ?_
        refine r_lmul cx dL_seen_46 hF (fun z22 hF => ?_)
        refine r_aload_n cx dL_seen_47 (lv_at hl 0 rfl) ?_
        refine r_iload_n cx dL_seen_48 (lv_at hl 2 rfl) ?_
        obtain ⟨v23, s24, hc, hF⟩ := bns_some hF
        refine r_callWi cx hP (As := [.ref (ad 0 0), .int x3]) (wn_blooms l Γ ad A x3 σ v23 s24 (wn_some hc)) mz13_269 ⟨Nat.le_of_ble_eq_true rfl, Nat.le_of_ble_eq_true rfl⟩ rfl (Nat.le_of_ble_eq_true rfl) hl.1 ⟨Nat.zero_le _, Nat.zero_le _⟩ dL_seen_49 (fun H locs hP => ?_)
        refine r_i2l cx dL_seen_52 hF (fun z25 hF => ?_)
        refine r_ladd cx dL_seen_53 hF (fun z26 hF => ?_)
        refine r_bipush cx 64 dL_seen_54 (by decide) ?_
        refine r_aload_n cx dL_seen_56 (lv_at hl 0 rfl) ?_
        refine r_iload_n cx dL_seen_57 (lv_at hl 2 rfl) ?_
        obtain ⟨v27, s28, hc, hF⟩ := bns_some hF
        refine r_callWi cx hP (As := [.ref (ad 0 0), .int x3]) (wn_placesLeft l Γ ad A x3 s24 v27 s28 (wn_some hc)) mz13_271 ⟨Nat.le_of_ble_eq_true rfl, Nat.le_of_ble_eq_true rfl⟩ rfl (Nat.le_of_ble_eq_true rfl) hl.1 ⟨Nat.zero_le _, Nat.zero_le _⟩ dL_seen_58 (fun H locs hP => ?_)
        refine r_imul cx dL_seen_61 hF (fun v29 hF => ?_)
        refine r_i2l cx dL_seen_62 hF (fun z30 hF => ?_)
        refine r_ladd cx dL_seen_63 hF (fun z31 hF => ?_)
        refine r_aload_n cx dL_seen_64 (lv_at hl 0 rfl) ?_
        refine r_iload_n cx dL_seen_65 (lv_at hl 2 rfl) ?_
        obtain ⟨v32, s33, hc, hF⟩ := bns_some hF
        refine r_callWi cx hP (As := [.ref (ad 0 0), .int x3]) (wn_isInSeason l Γ ad A x3 s28 v32 s33 (wn_some hc)) mz13_307 ⟨Nat.le_of_ble_eq_true rfl, Nat.le_of_ble_eq_true rfl⟩ rfl (Nat.le_of_ble_eq_true rfl) hl.1 ⟨Nat.zero_le _, Nat.zero_le _⟩ dL_seen_66 (fun H locs hP => ?_)
        refine r_if_eq cx 78 dL_seen_69 (by decide) hF (fun hF => ?_) (fun hF => ?_)
        · refine r_iconst cx 0 dL_seen_78 (by decide) ?_
          exact b79 (f13_seen_b34 fu) ih x3 z31 0 s33 _ _ _ hP (lv_sub hl [0, 2] rfl) hF
        · refine r_sipush cx 4096 dL_seen_72 (by decide) ?_
          refine r_goto cx 79 dL_seen_75 (by decide) ?_
          exact b79 (f13_seen_b34 fu) ih x3 z31 4096 s33 _ _ _ hP (lv_sub hl [0, 2] rfl) hF
  refine r_aload_n cx dL_seen_0 (lv_at hl 0 rfl) ?_
  obtain ⟨v34, hc, hF⟩ := bnd_some hF
  refine r_callVi cx hP (As := []) (w11_time l Γ ad A σ v34 hc) mw13_294 ⟨Nat.le_of_ble_eq_true rfl, Nat.le_of_ble_eq_true rfl⟩ (dXr (by decide)) rfl rfl rfl (Nat.le_of_ble_eq_true rfl) hl.1 ⟨Nat.zero_le _, Nat.zero_le _⟩ dL_seen_1 (fun H locs hP => ?_)
  refine r_i2l cx dL_seen_4 hF (fun z35 hF => ?_)
  refine lv_ldc2 cx.1 cx.2.1 cx.hown (cx.hts _ kl13_297) dL_seen_5 ?_
  refine r_aload_n cx dL_seen_8 (lv_at hl 0 rfl) ?_
  obtain ⟨v36, hc, hF⟩ := bnd_some hF
  refine r_callVi cx hP (As := []) (w11_takings l Γ ad A σ v36 hc) mw13_299 ⟨Nat.le_of_ble_eq_true rfl, Nat.le_of_ble_eq_true rfl⟩ (dXr (by decide)) rfl rfl rfl (Nat.le_of_ble_eq_true rfl) hl.1 ⟨Nat.zero_le _, Nat.zero_le _⟩ dL_seen_9 (fun H locs hP => ?_)
  refine r_i2l cx dL_seen_12 hF (fun z37 hF => ?_)
  refine r_lmul cx dL_seen_13 hF (fun z38 hF => ?_)
  refine r_ladd cx dL_seen_14 hF (fun z39 hF => ?_)
  refine lv_ldc2 cx.1 cx.2.1 cx.hown (cx.hts _ kl13_302) dL_seen_15 ?_
  refine r_aload_n cx dL_seen_18 (lv_at hl 0 rfl) ?_
  obtain ⟨v40, hc, hF⟩ := bnd_some hF
  refine r_callVi cx hP (As := []) (w11_plucked l Γ ad A σ v40 hc) mw13_304 ⟨Nat.le_of_ble_eq_true rfl, Nat.le_of_ble_eq_true rfl⟩ (dXr (by decide)) rfl rfl rfl (Nat.le_of_ble_eq_true rfl) hl.1 ⟨Nat.zero_le _, Nat.zero_le _⟩ dL_seen_19 (fun H locs hP => ?_)
  refine r_i2l cx dL_seen_22 hF (fun z41 hF => ?_)
  refine r_lmul cx dL_seen_23 hF (fun z42 hF => ?_)
  refine r_ladd cx dL_seen_24 hF (fun z43 hF => ?_)
  refine r_aload_n cx dL_seen_25 (lv_at hl 0 rfl) ?_
  obtain ⟨v44, hc, hF⟩ := bnd_some hF
  refine r_callVi cx hP (As := []) (w11_alarms l Γ ad A σ v44 hc) mw13_288 ⟨Nat.le_of_ble_eq_true rfl, Nat.le_of_ble_eq_true rfl⟩ (dXr (by decide)) rfl rfl rfl (Nat.le_of_ble_eq_true rfl) hl.1 ⟨Nat.zero_le _, Nat.zero_le _⟩ dL_seen_26 (fun H locs hP => ?_)
  refine r_i2l cx dL_seen_29 hF (fun z45 hF => ?_)
  refine r_ladd cx dL_seen_30 hF (fun z46 hF => ?_)
  refine lv_lstore_n (lv' := [(1, .long z46), (0, .ref (ad 0 0))]) cx.1 cx.2.1 dL_seen_31 rfl hl (by decide) rfl (fun ls hl => ?_)
  refine r_iconst cx 0 dL_seen_32 (by decide) ?_
  refine r_istore_n cx [(3, .int 0), (1, .long z46), (0, .ref (ad 0 0))] dL_seen_33 hl (by decide) rfl (fun ls hl => ?_)
  exact b34 FU z46 0 σ _ _ _ hP (lv_sub hl [2, 1, 0] rfl) hF
set_option maxHeartbeats 4000000 in
set_option maxRecDepth 100000 in
theorem w13_isAlike (l : Launch) (Γ : Wc) (ad : Nat → Nat → Nat) (A : Nat → Prop) (p1 : Int32) (p2 : Int32) (σ : Sig) (r : Int32) (σ1 : Sig) (hF : f13_isAlike p1 p2 σ = some (r, σ1)) : MI l SX Γ ad A yL_isAlike cL_isAlike 10 (some .boolean) 10 177 [.ref (ad 0 0), .int p1, .int p2] σ r σ1 := by
  refine MI.of (by decide) (Nat.le_of_ble_eq_true rfl) ?_
  intro p e s m args below meth c ls cx hr hk hP hl
  have hl : lv_has ls 10 [(0, .ref (ad 0 0)), (1, .int p1), (2, .int p2)] := hl
  rw [f13_isAlike] at hF
  generalize hH0 : s.heap = H0 at hP ⊢
  generalize ([] : List Loc) = locs0 at hP ⊢
  clear hH0
  have b80 : ∀ (xl3 : Int64) (t0 : Int32) (σ : Sig) (H : Heap) (locs : List Loc) (ls : Array Slot), PS SX Γ ad A s σ H locs → lv_has ls 10 [(0, .ref (ad 0 0)), (3, .long xl3)] → f13_isAlike_b80 xl3 t0 σ = some (r, σ1) → W p l e (rmz 10 177) s m args below meth c H locs 0 0 (QI SX Γ ad A below args s r σ1) (F0 m 80 ls [.int t0]) := by
    intro xl3 t0 σ H locs ls hP hl hF
    rw [f13_isAlike_b80] at hF
    refine r_istore cx [(9, .int t0), (0, .ref (ad 0 0)), (3, .long xl3)] dL_isAlike_80 hl (by decide) rfl (fun ls hl => ?_)
    refine r_aload_n cx dL_isAlike_82 (lv_at hl 1 rfl) ?_
    obtain ⟨v1, s2, hc, hF⟩ := bns_some hF
    refine r_callVi cx hP (As := []) (w11_undo l Γ ad A σ v1 s2 hc) mw13_291 ⟨Nat.le_of_ble_eq_true rfl, Nat.le_of_ble_eq_true rfl⟩ (dXr (by decide)) rfl rfl rfl (Nat.le_of_ble_eq_true rfl) hl.1 ⟨Nat.zero_le _, Nat.zero_le _⟩ dL_isAlike_83 (fun H locs hP => ?_)
    refine r_pop cx dL_isAlike_86 rfl ?_
    refine r_iload cx dL_isAlike_87 (lv_at hl 0 rfl) ?_
    refine r_if_eq cx 105 dL_isAlike_89 (by decide) hF (fun hF => ?_) (fun hF => ?_)
    · refine r_iconst cx 0 dL_isAlike_105 (by decide) ?_
      exact r_zret cx hP hr hk (by decide) dL_isAlike_106 hF
    · refine r_aload_n cx dL_isAlike_92 (lv_at hl 1 rfl) ?_
      obtain ⟨z3, s4, hc, hF⟩ := bnl_some hF
      refine r_callSl cx hP (As := [.ref (ad 0 0)]) (w13_seen l Γ ad A s2 z3 s4 hc) mw13_309 ⟨Nat.le_of_ble_eq_true rfl, Nat.le_of_ble_eq_true rfl⟩ rfl (Nat.le_of_ble_eq_true rfl) hl.1 ⟨Nat.zero_le _, Nat.zero_le _⟩ dL_isAlike_93 (fun H locs hP => ?_)
      refine lv_lload_n cx.1 cx.2.1 dL_isAlike_96 rfl (lv_at hl 2 rfl) ?_
      refine r_lcmp cx dL_isAlike_97 hF (fun v5 hF => ?_)
      refine r_if_ne cx 105 dL_isAlike_98 (by decide) hF (fun hF => ?_) (fun hF => ?_)
      · refine r_iconst cx 0 dL_isAlike_105 (by decide) ?_
        exact r_zret cx hP hr hk (by decide) dL_isAlike_106 hF
      · refine r_iconst cx 1 dL_isAlike_101 (by decide) ?_
        refine r_goto cx 106 dL_isAlike_102 (by decide) ?_
        exact r_zret cx hP hr hk (by decide) dL_isAlike_106 hF
  have b79 : ∀ (xl3 : Int64) (σ : Sig) (H : Heap) (locs : List Loc) (ls : Array Slot), PS SX Γ ad A s σ H locs → lv_has ls 10 [(0, .ref (ad 0 0)), (3, .long xl3)] → f13_isAlike_b79 xl3 σ = some (r, σ1) → W p l e (rmz 10 177) s m args below meth c H locs 0 0 (QI SX Γ ad A below args s r σ1) (F0 m 79 ls []) := by
    intro xl3 σ H locs ls hP hl hF
    rw [f13_isAlike_b79] at hF
    refine r_iconst cx 0 dL_isAlike_79 (by decide) ?_
    exact b80 xl3 0 σ _ _ _ hP (lv_sub hl [0, 1] rfl) hF
  refine r_aload_n cx dL_isAlike_0 (lv_at hl 0 rfl) ?_
  obtain ⟨z6, s7, hc, hF⟩ := bnl_some hF
  refine r_callSl cx hP (As := [.ref (ad 0 0)]) (w13_seen l Γ ad A σ z6 s7 hc) mw13_309 ⟨Nat.le_of_ble_eq_true rfl, Nat.le_of_ble_eq_true rfl⟩ rfl (Nat.le_of_ble_eq_true rfl) hl.1 ⟨Nat.zero_le _, Nat.zero_le _⟩ dL_isAlike_1 (fun H locs hP => ?_)
  refine lv_lstore_n (lv' := [(3, .long z6), (0, .ref (ad 0 0)), (1, .int p1), (2, .int p2)]) cx.1 cx.2.1 dL_isAlike_4 rfl hl (by decide) rfl (fun ls hl => ?_)
  refine r_aload_n cx dL_isAlike_5 (lv_at hl 1 rfl) ?_
  refine r_iload_n cx dL_isAlike_6 (lv_at hl 2 rfl) ?_
  obtain ⟨v8, s9, hc, hF⟩ := bns_some hF
  refine r_callWi cx hP (As := [.ref (ad 0 0), .int p1]) (wn_pass l Γ ad A p1 s7 v8 s9 (wn_some hc)) mz13_211 ⟨Nat.le_of_ble_eq_true rfl, Nat.le_of_ble_eq_true rfl⟩ rfl (Nat.le_of_ble_eq_true rfl) hl.1 ⟨Nat.zero_le _, Nat.zero_le _⟩ dL_isAlike_7 (fun H locs hP => ?_)
  refine r_istore cx [(5, .int v8), (3, .long z6), (0, .ref (ad 0 0)), (1, .int p1), (2, .int p2)] dL_isAlike_10 hl (by decide) rfl (fun ls hl => ?_)
  refine r_aload_n cx dL_isAlike_12 (lv_at hl 2 rfl) ?_
  refine r_iload_n cx dL_isAlike_13 (lv_at hl 4 rfl) ?_
  obtain ⟨v10, s11, hc, hF⟩ := bns_some hF
  refine r_callWi cx hP (As := [.ref (ad 0 0), .int p2]) (wn_pass l Γ ad A p2 s9 v10 s11 (wn_some hc)) mz13_211 ⟨Nat.le_of_ble_eq_true rfl, Nat.le_of_ble_eq_true rfl⟩ rfl (Nat.le_of_ble_eq_true rfl) hl.1 ⟨Nat.zero_le _, Nat.zero_le _⟩ dL_isAlike_14 (fun H locs hP => ?_)
  refine r_istore cx [(6, .int v10), (5, .int v8), (3, .long z6), (0, .ref (ad 0 0)), (1, .int p1), (2, .int p2)] dL_isAlike_17 hl (by decide) rfl (fun ls hl => ?_)
  refine r_iload cx dL_isAlike_19 (lv_at hl 1 rfl) ?_
  refine r_sipush cx (-7777) dL_isAlike_21 (by decide) ?_
  refine r_icmp_eq cx 35 dL_isAlike_24 (by decide) hF (fun hF => ?_) (fun hF => ?_)
  · refine r_iconst cx 0 dL_isAlike_35 (by decide) ?_
    exact r_zret cx hP hr hk (by decide) dL_isAlike_36 hF
  · refine r_iload cx dL_isAlike_27 (lv_at hl 0 rfl) ?_
    refine r_sipush cx (-7777) dL_isAlike_29 (by decide) ?_
    refine r_icmp_ne cx 37 dL_isAlike_32 (by decide) hF (fun hF => ?_) (fun hF => ?_)
    · refine r_aload_n cx dL_isAlike_37 (lv_at hl 3 rfl) ?_
      obtain ⟨z12, s13, hc, hF⟩ := bnl_some hF
      refine r_callSl cx hP (As := [.ref (ad 0 0)]) (w13_seen l Γ ad A s11 z12 s13 hc) mw13_309 ⟨Nat.le_of_ble_eq_true rfl, Nat.le_of_ble_eq_true rfl⟩ rfl (Nat.le_of_ble_eq_true rfl) hl.1 ⟨Nat.zero_le _, Nat.zero_le _⟩ dL_isAlike_38 (fun H locs hP => ?_)
      refine lv_lstore (lv' := [(7, .long z12), (6, .int v10), (5, .int v8), (3, .long z6), (0, .ref (ad 0 0)), (1, .int p1), (2, .int p2)]) cx.1 cx.2.1 dL_isAlike_41 hl (by decide) rfl (fun ls hl => ?_)
      refine r_aload_n cx dL_isAlike_43 (lv_at hl 4 rfl) ?_
      obtain ⟨v14, s15, hc, hF⟩ := bns_some hF
      refine r_callVi cx hP (As := []) (w11_undo l Γ ad A s13 v14 s15 hc) mw13_291 ⟨Nat.le_of_ble_eq_true rfl, Nat.le_of_ble_eq_true rfl⟩ (dXr (by decide)) rfl rfl rfl (Nat.le_of_ble_eq_true rfl) hl.1 ⟨Nat.zero_le _, Nat.zero_le _⟩ dL_isAlike_44 (fun H locs hP => ?_)
      refine r_pop cx dL_isAlike_47 rfl ?_
      refine r_aload_n cx dL_isAlike_48 (lv_at hl 4 rfl) ?_
      obtain ⟨v16, s17, hc, hF⟩ := bns_some hF
      refine r_callVi cx hP (As := []) (w11_undo l Γ ad A s15 v16 s17 hc) mw13_291 ⟨Nat.le_of_ble_eq_true rfl, Nat.le_of_ble_eq_true rfl⟩ (dXr (by decide)) rfl rfl rfl (Nat.le_of_ble_eq_true rfl) hl.1 ⟨Nat.zero_le _, Nat.zero_le _⟩ dL_isAlike_49 (fun H locs hP => ?_)
      refine r_pop cx dL_isAlike_52 rfl ?_
      refine r_aload_n cx dL_isAlike_53 (lv_at hl 4 rfl) ?_
      refine r_iload_n cx dL_isAlike_54 (lv_at hl 5 rfl) ?_
      refine r_iload_n cx dL_isAlike_55 (lv_at hl 6 rfl) ?_
      refine r_iadd cx dL_isAlike_56 hF (fun v18 hF => ?_)
      obtain ⟨v19, s20, hc, hF⟩ := bns_some hF
      refine r_callWi cx hP (As := [.ref (ad 0 0), .int v18]) (wn_pass l Γ ad A v18 s17 v19 s20 (wn_some hc)) mz13_211 ⟨Nat.le_of_ble_eq_true rfl, Nat.le_of_ble_eq_true rfl⟩ rfl (Nat.le_of_ble_eq_true rfl) hl.1 ⟨Nat.zero_le _, Nat.zero_le _⟩ dL_isAlike_57 (fun H locs hP => ?_)
      refine r_iload cx dL_isAlike_60 (lv_at hl 1 rfl) ?_
      refine r_icmp_ne cx 79 dL_isAlike_62 (by decide) hF (fun hF => ?_) (fun hF => ?_)
      · exact b79 z6 s20 _ _ _ hP (lv_sub hl [4, 3] rfl) hF
      · refine r_aload_n cx dL_isAlike_65 (lv_at hl 4 rfl) ?_
        obtain ⟨z21, s22, hc, hF⟩ := bnl_some hF
        refine r_callSl cx hP (As := [.ref (ad 0 0)]) (w13_seen l Γ ad A s20 z21 s22 hc) mw13_309 ⟨Nat.le_of_ble_eq_true rfl, Nat.le_of_ble_eq_true rfl⟩ rfl (Nat.le_of_ble_eq_true rfl) hl.1 ⟨Nat.zero_le _, Nat.zero_le _⟩ dL_isAlike_66 (fun H locs hP => ?_)
        refine lv_lload cx.1 cx.2.1 dL_isAlike_69 (lv_at hl 0 rfl) ?_
        refine r_lcmp cx dL_isAlike_71 hF (fun v23 hF => ?_)
        refine r_if_ne cx 79 dL_isAlike_72 (by decide) hF (fun hF => ?_) (fun hF => ?_)
        · exact b79 z6 s22 _ _ _ hP (lv_sub hl [4, 3] rfl) hF
        · refine r_iconst cx 1 dL_isAlike_75 (by decide) ?_
          refine r_goto cx 80 dL_isAlike_76 (by decide) ?_
          exact b80 z6 1 s22 _ _ _ hP (lv_sub hl [4, 3] rfl) hF
    · refine r_iconst cx 0 dL_isAlike_35 (by decide) ?_
      exact r_zret cx hP hr hk (by decide) dL_isAlike_36 hF
