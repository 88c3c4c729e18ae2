/-! printed: what each method computes, over (block, cell, slot ↦ int) ; none where the machine itself would throw -/
def f6_addWord_b3 : Nat → Int32 → Int32 → Sig → Option Sig
  | 0, _, _, _ => none
  | fu + 1, x1, x2, σ =>
    if x2 < 0 then
      some σ
    else
      nm (σ 0 4 1) fun v1 =>
      if (500 : Int32) ≤ v1 then
        some σ
      else
        nm (σ 0 4 1) fun v2 =>
        nm (((x1).toUInt32 >>> ((x2).toUInt32 &&& Int32.toUInt32 31)).toInt32) fun v3 =>
        nm ((v3).toInt8.toInt32) fun v4 =>
        ast σ 0 5 500 v2 (vp_nar .byte v4) fun s5 =>
        nm (s5 0 4 1) fun v6 =>
        nm (v6 + 1) fun v7 =>
        nm (up s5 0 4 1 v7) fun s8 =>
        nm (x2 + (-8)) fun v9 =>
        f6_addWord_b3 fu x1 v9 s8
def f6_addWord (p1 : Int32) (σ : Sig) : Option (Sig) :=
  f6_addWord_b3 FU p1 24 σ
def f11_append (p1 : Int32) (p2 : Int32) (p3 : Int32) (p4 : Int32) (p5 : Int32) (σ : Sig) : Option (Int32 × Sig) :=
  nm (σ 0 4 1) fun v1 =>
  nm (v1 + 20) fun v2 =>
  if v2 ≤ 500 then
    bnd (f6_addWord p1 σ) fun s3 =>
    bnd (f6_addWord p2 s3) fun s4 =>
    bnd (f6_addWord p3 s4) fun s5 =>
    bnd (f6_addWord p4 s5) fun s6 =>
    bnd (f6_addWord p5 s6) fun s7 =>
    nm (s7 0 4 1) fun v8 =>
    some (v8, s7)
  else
    some ((-2), σ)
def f3_letPeacocksWalk (n : Nat) (p1 : Int32) (p2 : Int32) (σ : Sig) : Option (Sig) :=
  nm (up σ (n + 1) 1 1 p1) fun s1 =>
  nm (up s1 (n + 1) 1 2 p2) fun s2 =>
  some s2
def f3_reset (n : Nat) (σ : Sig) : Option (Sig) :=
  nm (up σ (n + 1) 1 0 0) fun s1 =>
  bnd (f3_letPeacocksWalk n 50 53 s1) fun s2 =>
  some s2
def f10_reset (n : Nat) (σ : Sig) : Option (Sig) :=
  nm (up σ (n + 1) 2 0 0) fun s1 =>
  nm (up s1 (n + 1) 2 1 2) fun s2 =>
  some s2
def f1_reset (n : Nat) (σ : Sig) : Option (Sig) :=
  nm (up σ (n + 1) 6 0 0) fun s1 =>
  nm (up s1 (n + 1) 6 1 0) fun s2 =>
  nm (up s2 (n + 1) 6 2 0) fun s3 =>
  nm (up s3 (n + 1) 6 3 0) fun s4 =>
  nm (up s4 (n + 1) 6 4 0) fun s5 =>
  nm (up s5 (n + 1) 6 5 0) fun s6 =>
  some s6
def f4_reset (n : Nat) (σ : Sig) : Option (Sig) :=
  bnd (f3_reset n σ) fun s1 =>
  bnd (f10_reset n s1) fun s2 =>
  nm (up s2 (n + 1) 3 0 0) fun s3 =>
  nm (up s3 (n + 1) 4 0 0) fun s4 =>
  nm (up s4 (n + 1) 5 0 0) fun s5 =>
  bnd (f1_reset n s5) fun s6 =>
  nm (up s6 (n + 1) 0 6 1) fun s7 =>
  some s7
def f6_kindOf_b28 (x0 : Int32) : Option (Int32) :=
  if x0 = 59 then
    some 2
  else
    some 4
def f6_kindOf_b14 (x0 : Int32) : Option (Int32) :=
  if x0 < 48 then
    f6_kindOf_b28 x0
  else
    if (57 : Int32) < x0 then
      f6_kindOf_b28 x0
    else
      some 1
def f6_kindOf (p0 : Int32) : Option (Int32) :=
  if p0 < 97 then
    f6_kindOf_b14 p0
  else
    if (122 : Int32) < p0 then
      f6_kindOf_b14 p0
    else
      some 0
def f6_readNext_b47 (rc : Sig → Option (Sig)) (σ : Sig) : Option (Sig) :=
  nm (σ 0 4 3) fun v1 =>
  nm (v1 + 1) fun v2 =>
  nm (up σ 0 4 3 v2) fun s3 =>
  rc s3
def f6_readNext_b169 (σ : Sig) : Option (Sig) :=
  nm (σ 0 4 2) fun v4 =>
  if v4 = 1 then
    nm (σ 0 4 4) fun v5 =>
    nm (σ 0 4 3) fun v6 =>
    nm (v5 - v6) fun v7 =>
    if v7 ≤ 4 then
      some σ
    else
      nm (up σ 0 4 2 4) fun s8 =>
      some s8
  else
    some σ
def f6_readNext_b126 (rc : Sig → Option (Sig)) (σ : Sig) : Option (Sig) :=
  nm (σ 0 4 4) fun v9 =>
  nm (σ 0 4 1) fun v10 =>
  if v10 ≤ v9 then
    f6_readNext_b169 σ
  else
    nm (σ 0 4 4) fun v11 =>
    ald (σ 0 5) 500 v11 fun v12 =>
    bnd (f6_kindOf v12) fun v13 =>
    nm (σ 0 4 2) fun v14 =>
    if v13 = v14 then
      nm (σ 0 4 4) fun v15 =>
      nm (v15 + 1) fun v16 =>
      nm (up σ 0 4 4 v16) fun s17 =>
      rc s17
    else
      f6_readNext_b169 σ
def f6_readNext_b111 : Nat → Sig → Option Sig
  | 0, _ => none
  | fu + 1, σ =>
    nm (σ 0 4 2) fun v18 =>
    if v18 = 0 then
      f6_readNext_b126 (f6_readNext_b111 fu) σ
    else
      nm (σ 0 4 2) fun v19 =>
      if v19 = 1 then
        f6_readNext_b126 (f6_readNext_b111 fu) σ
      else
        f6_readNext_b169 σ
def f6_readNext_b60 (σ : Sig) : Option (Sig) :=
  nm (σ 0 4 3) fun v20 =>
  nm (up σ 0 4 4 v20) fun s21 =>
  nm (s21 0 4 3) fun v22 =>
  nm (s21 0 4 1) fun v23 =>
  if v22 = v23 then
    nm (up s21 0 4 2 3) fun s31 =>
    some s31
  else
    nm (s21 0 4 3) fun v24 =>
    ald (s21 0 5) 500 v24 fun v25 =>
    bnd (f6_kindOf v25) fun v26 =>
    nm (up s21 0 4 2 v26) fun s27 =>
    nm (s27 0 4 4) fun v28 =>
    nm (v28 + 1) fun v29 =>
    nm (up s27 0 4 4 v29) fun s30 =>
    f6_readNext_b111 FU s30
def f6_readNext_b8 : Nat → Sig → Option Sig
  | 0, _ => none
  | fu + 1, σ =>
    nm (σ 0 4 3) fun v32 =>
    nm (σ 0 4 1) fun v33 =>
    if v33 ≤ v32 then
      f6_readNext_b60 σ
    else
      nm (σ 0 4 3) fun v34 =>
      ald (σ 0 5) 500 v34 fun v35 =>
      if v35 = 32 then
        f6_readNext_b47 (f6_readNext_b8 fu) σ
      else
        nm (σ 0 4 3) fun v36 =>
        ald (σ 0 5) 500 v36 fun v37 =>
        if v37 = 10 then
          f6_readNext_b47 (f6_readNext_b8 fu) σ
        else
          f6_readNext_b60 σ
def f6_readNext (σ : Sig) : Option (Sig) :=
  nm (σ 0 4 4) fun v38 =>
  nm (up σ 0 4 3 v38) fun s39 =>
  f6_readNext_b8 FU s39
def f6_readFirst (σ : Sig) : Option (Sig) :=
  nm (up σ 0 4 4 0) fun s1 =>
  bnd (f6_readNext s1) fun s2 =>
  some s2
def f6_isWord_b27 (k1 : Nat) : Nat → Int32 → Sig → Option Int32
  | 0, _, _ => none
  | fu + 1, x2, σ =>
    nm (Int32.ofNat (strB k1).length) fun v1 =>
    if v1 ≤ x2 then
      some 1
    else
      nm (σ 0 4 3) fun v2 =>
      nm (v2 + x2) fun v3 =>
      ald (σ 0 5) 500 v3 fun v4 =>
      ald (strA k1) (strB k1).length x2 fun v5 =>
      if v4 = v5 then
        nm (x2 + 1) fun v6 =>
        f6_isWord_b27 k1 fu v6 σ
      else
        some 0
def f6_isWord (k1 : Nat) (σ : Sig) : Option (Int32) :=
  nm (σ 0 4 2) fun v7 =>
  if v7 = 0 then
    nm (σ 0 4 4) fun v8 =>
    nm (σ 0 4 3) fun v9 =>
    nm (v8 - v9) fun v10 =>
    nm (Int32.ofNat (strB k1).length) fun v11 =>
    if v10 = v11 then
      f6_isWord_b27 k1 FU 0 σ
    else
      some 0
  else
    some 0
def f9_fail (p1 : Int32) (σ : Sig) : Option (Sig) :=
  nm (σ 0 3 2) fun v1 =>
  if v1 = 0 then
    nm (up σ 0 3 2 p1) fun s2 =>
    nm (s2 0 4 3) fun v3 =>
    nm (up s2 0 3 3 v3) fun s4 =>
    some s4
  else
    some σ
def f6_valueOfNumber_b7 : Nat → Int32 → Int32 → Sig → Option Int32
  | 0, _, _, _ => none
  | fu + 1, x1, x2, σ =>
    nm (σ 0 4 4) fun v1 =>
    if v1 ≤ x2 then
      some x1
    else
      nm (x1 * 10) fun v2 =>
      ald (σ 0 5) 500 x2 fun v3 =>
      nm (v2 + v3) fun v4 =>
      nm (v4 - 48) fun v5 =>
      nm (x2 + 1) fun v6 =>
      f6_valueOfNumber_b7 fu v5 v6 σ
def f6_valueOfNumber (σ : Sig) : Option (Int32) :=
  nm (σ 0 4 3) fun v7 =>
  f6_valueOfNumber_b7 FU 0 v7 σ
def f9_numberHere_b36 (x3 : Int32) (σ : Sig) : Option (Int32 × Sig) :=
  bnd (f9_fail 2 σ) fun s1 =>
  some (x3, s1)
def f9_numberHere (p1 : Int32) (p2 : Int32) (σ : Sig) : Option (Int32 × Sig) :=
  nm (σ 0 4 2) fun v2 =>
  if v2 = 1 then
    bnd (f6_valueOfNumber σ) fun v3 =>
    if v3 < p1 then
      f9_numberHere_b36 v3 σ
    else
      if v3 ≤ p2 then
        some (v3, σ)
      else
        f9_numberHere_b36 v3 σ
  else
    bnd (f9_fail 1 σ) fun s4 =>
    some (p1, s4)
def f10_hasRoom (n : Nat) (σ : Sig) : Option (Int32) :=
  nm (σ (n + 1) 2 0) fun v1 =>
  if (5 : Int32) ≤ v1 then
    some 0
  else
    some 1
def f10_add (n : Nat) (p1 : Int32) (σ : Sig) : Option (Sig) :=
  nm (σ (n + 1) 2 0) fun v1 =>
  ast σ (n + 1) 7 5 v1 p1 fun s2 =>
  nm (s2 (n + 1) 2 0) fun v3 =>
  nm (v3 + 1) fun v4 =>
  nm (up s2 (n + 1) 2 0 v4) fun s5 =>
  some s5
def f9_readPrice_b26 (x1 : Int32) (σ : Sig) : Option (Sig) :=
  nm (σ 0 3 2) fun v1 =>
  if v1 = 0 then
    bnd (f10_add 10 x1 σ) fun s2 =>
    bnd (f6_readNext s2) fun s3 =>
    some s3
  else
    some σ
def f9_readPrice (σ : Sig) : Option (Sig) :=
  bns (f9_numberHere 1 99 σ) fun v4 s5 =>
  bnd (f10_hasRoom 10 s5) fun v6 =>
  if v6 = 0 then
    bnd (f9_fail 3 s5) fun s7 =>
    f9_readPrice_b26 v4 s7
  else
    f9_readPrice_b26 v4 s5
def f9_isAtSemicolon_b16 (σ : Sig) : Option (Int32 × Sig) :=
  nm (σ 0 3 2) fun v1 =>
  if v1 = 0 then
    some (1, σ)
  else
    some (0, σ)
def f9_isAtSemicolon (σ : Sig) : Option (Int32 × Sig) :=
  nm (σ 0 4 2) fun v2 =>
  if v2 = 2 then
    f9_isAtSemicolon_b16 σ
  else
    bnd (f9_fail 1 σ) fun s3 =>
    f9_isAtSemicolon_b16 s3
def f9_readGarden_b64 (σ : Sig) : Option (Sig) :=
  bns (f9_isAtSemicolon σ) fun v1 s2 =>
  if v1 = 0 then
    some s2
  else
    bnd (f6_readNext s2) fun s3 =>
    some s3
def f9_readGarden_b31 : Nat → Int32 → Sig → Option Sig
  | 0, _, _ => none
  | fu + 1, x1, σ =>
    if (5 : Int32) < x1 then
      f9_readGarden_b64 σ
    else
      nm (σ 0 3 2) fun v4 =>
      if v4 = 0 then
        nm (σ 0 4 2) fun v5 =>
        if v5 = 1 then
          bnd (f9_readPrice σ) fun s6 =>
          nm (x1 + 1) fun v7 =>
          f9_readGarden_b31 fu v7 s6
        else
          f9_readGarden_b64 σ
      else
        f9_readGarden_b64 σ
def f9_readGarden (σ : Sig) : Option (Sig) :=
  bnd (f6_isWord 1 σ) fun v8 =>
  if v8 = 0 then
    bnd (f9_fail 1 σ) fun s11 =>
    some s11
  else
    bnd (f6_readNext σ) fun s9 =>
    bnd (f9_readPrice s9) fun s10 =>
    f9_readGarden_b31 FU 1 s10
def f9_goesOn (σ : Sig) : Option (Int32) :=
  nm (σ 0 3 2) fun v1 =>
  if v1 = 0 then
    nm (σ 0 4 2) fun v2 =>
    if v2 = 3 then
      some 0
    else
      some 1
  else
    some 0
def f9_nextNumber_b14 (x1 : Int32) (x2 : Int32) (σ : Sig) : Option (Int32 × Sig) :=
  bns (f9_numberHere x1 x2 σ) fun v1 s2 =>
  some (v1, s2)
def f9_nextNumber (p1 : Int32) (p2 : Int32) (σ : Sig) : Option (Int32 × Sig) :=
  nm (σ 0 3 2) fun v3 =>
  if v3 = 0 then
    bnd (f6_readNext σ) fun s4 =>
    f9_nextNumber_b14 p1 p2 s4
  else
    f9_nextNumber_b14 p1 p2 σ
def f9_isComplete_b14 (σ : Sig) : Option (Int32 × Sig) :=
  bns (f9_isAtSemicolon σ) fun v1 s2 =>
  gz v1 (some (v1, s2))
def f9_isComplete (σ : Sig) : Option (Int32 × Sig) :=
  nm (σ 0 3 2) fun v3 =>
  if v3 = 0 then
    bnd (f6_readNext σ) fun s4 =>
    f9_isComplete_b14 s4
  else
    f9_isComplete_b14 σ
def f0_hasRoom (n : Nat) (σ : Sig) : Option (Int32) :=
  nm (σ (n + 1) 3 0) fun v1 =>
  if (8 : Int32) ≤ v1 then
    some 0
  else
    some 1
def f9_executes (p1 : Int32) (σ : Sig) : Option (Int32 × Sig) :=
  if p1 = 0 then
    bnd (f9_fail 4 σ) fun s1 =>
    gz p1 (some (p1, s1))
  else
    gz p1 (some (p1, σ))
def f0_add (n : Nat) (p1 : Int32) (p2 : Int32) (p3 : Int32) (p4 : Int32) (σ : Sig) : Option (Int32 × Sig) :=
  nm (σ (n + 1) 3 0) fun v1 =>
  ast σ (n + 1) 8 8 v1 p1 fun s2 =>
  ast s2 (n + 1) 9 8 v1 p2 fun s3 =>
  ast s3 (n + 1) 10 8 v1 p3 fun s4 =>
  ast s4 (n + 1) 11 8 v1 p4 fun s5 =>
  ast s5 (n + 1) 12 8 v1 20 fun s6 =>
  ast s6 (n + 1) 13 8 v1 0 fun s7 =>
  ast s7 (n + 1) 14 8 v1 0 fun s8 =>
  nm (s8 (n + 1) 3 0) fun v9 =>
  nm (v9 + 1) fun v10 =>
  nm (up s8 (n + 1) 3 0 v10) fun s11 =>
  some (v1, s11)
def f9_readBed (σ : Sig) : Option (Sig) :=
  nm (σ (10 + 1) 2 0) fun v1 =>
  nm (v1 - 1) fun v2 =>
  bns (f9_nextNumber 0 v2 σ) fun v3 s4 =>
  bns (f9_nextNumber 1 20 s4) fun v5 s6 =>
  bns (f9_nextNumber 0 99 s6) fun v7 s8 =>
  bns (f9_nextNumber v7 99 s8) fun v9 s10 =>
  bns (f9_isComplete s10) fun v11 s12 =>
  if v11 = 0 then
    some s12
  else
    bnd (f0_hasRoom 10 s12) fun v13 =>
    bns (f9_executes v13 s12) fun v14 s15 =>
    if v14 = 0 then
      some s15
    else
      bns (f0_add 10 v3 v5 v7 v9 s15) fun v16 s17 =>
      some s17
def f10_setOfAllScents (n : Nat) (σ : Sig) : Option (Int32) :=
  nm (σ (n + 1) 2 0) fun v1 =>
  nm ((1 : Int32) <<< (v1 &&& 31)) fun v2 =>
  nm (v2 - 1) fun v3 =>
  some v3
def f3_today (n : Nat) (σ : Sig) : Option (Int32) :=
  nm (σ (n + 1) 1 0) fun v1 =>
  dvd v1 96 fun v2 =>
  some v2
def f9_nextKind_b43 (σ : Sig) : Option (Int32 × Sig) :=
  bnd (f6_isWord 5 σ) fun v1 =>
  if v1 = 0 then
    some (0, σ)
  else
    some (1, σ)
def f9_nextKind (σ : Sig) : Option (Int32 × Sig) :=
  nm (σ 0 3 2) fun v2 =>
  if v2 = 0 then
    bnd (f6_readNext σ) fun s3 =>
    bnd (f6_isWord 4 s3) fun v4 =>
    if v4 = 0 then
      bnd (f6_isWord 5 s3) fun v5 =>
      if v5 = 0 then
        bnd (f9_fail 1 s3) fun s6 =>
        f9_nextKind_b43 s6
      else
        f9_nextKind_b43 s3
    else
      f9_nextKind_b43 s3
  else
    f9_nextKind_b43 σ
def f7_hasRoom (n : Nat) (σ : Sig) : Option (Int32) :=
  nm (σ (n + 1) 4 0) fun v1 =>
  if (30 : Int32) ≤ v1 then
    some 0
  else
    some 1
def f2_hasRoom (n : Nat) (σ : Sig) : Option (Int32) :=
  nm (σ (n + 1) 5 0) fun v1 =>
  if (50 : Int32) ≤ v1 then
    some 0
  else
    some 1
def f4_canSellPass (n : Nat) (σ : Sig) : Option (Int32) :=
  bnd (f7_hasRoom n σ) fun v1 =>
  if v1 = 0 then
    some 0
  else
    bnd (f2_hasRoom n σ) fun v2 =>
    if v2 = 0 then
      some 0
    else
      some 1
def f10_percentForDays (p0 : Int32) : Option (Int32) :=
  if p0 < 6 then
    if p0 < 3 then
      some 100
    else
      some 90
  else
    some 80
def f10_priceOfPass_b37 (n : Nat) (rc : Int32 → Int32 → Int32 → Int32 → Int32 → Sig → Option (Int32)) (x1 : Int32) (x2 : Int32) (x3 : Int32) (x4 : Int32) (x5 : Int32) (σ : Sig) : Option (Int32) :=
  nm (x5 + 1) fun v1 =>
  rc x1 x2 x3 x4 v1 σ
def f10_priceOfPass_b55 (n : Nat) (x2 : Int32) (x4 : Int32) (t0 : Int32) (σ : Sig) : Option (Int32) :=
  nm (x4 * x2) fun v2 =>
  nm (v2 * t0) fun v3 =>
  bnd (f10_percentForDays x2) fun v4 =>
  nm (v3 * v4) fun v5 =>
  dvd v5 10000 fun v6 =>
  some v6
def f10_priceOfPass_b6 (n : Nat) : Nat → Int32 → Int32 → Int32 → Int32 → Int32 → Sig → Option Int32
  | 0, _, _, _, _, _, _ => none
  | fu + 1, x1, x2, x3, x4, x5, σ =>
    nm (σ (n + 1) 2 0) fun v7 =>
    if v7 ≤ x5 then
      if x3 = 1 then
        f10_priceOfPass_b55 n x2 x4 60 σ
      else
        f10_priceOfPass_b55 n x2 x4 100 σ
    else
      nm (x1 >>> (x5 &&& 31)) fun v8 =>
      nm (v8 &&& 1) fun v9 =>
      if v9 = 1 then
        ald (σ (n + 1) 7) 5 x5 fun v10 =>
        nm (x4 + v10) fun v11 =>
        f10_priceOfPass_b37 n (f10_priceOfPass_b6 n fu) x1 x2 x3 v11 x5 σ
      else
        f10_priceOfPass_b37 n (f10_priceOfPass_b6 n fu) x1 x2 x3 x4 x5 σ
def f10_priceOfPass (n : Nat) (p1 : Int32) (p2 : Int32) (p3 : Int32) (σ : Sig) : Option (Int32) :=
  f10_priceOfPass_b6 n FU p1 p2 p3 0 0 σ
def f7_add (n : Nat) (p1 : Int32) (p2 : Int32) (p3 : Int32) (p4 : Int32) (p5 : Int32) (σ : Sig) : Option (Int32 × Sig) :=
  nm (σ (n + 1) 4 0) fun v1 =>
  ast σ (n + 1) 15 30 v1 p1 fun s2 =>
  ast s2 (n + 1) 16 30 v1 p2 fun s3 =>
  ast s3 (n + 1) 17 30 v1 p3 fun s4 =>
  ast s4 (n + 1) 18 30 v1 p4 fun s5 =>
  ast s5 (n + 1) 19 30 v1 p5 fun s6 =>
  ast s6 (n + 1) 20 30 v1 (-1) fun s7 =>
  ast s7 (n + 1) 21 30 v1 (vp_nar .boolean 0) fun s8 =>
  ast s8 (n + 1) 22 30 v1 0 fun s9 =>
  ast s9 (n + 1) 23 30 v1 0 fun s10 =>
  ast s10 (n + 1) 24 30 v1 (-1) fun s11 =>
  ast s11 (n + 1) 25 30 v1 (-1) fun s12 =>
  ast s12 (n + 1) 26 30 v1 0 fun s13 =>
  nm (s13 (n + 1) 4 0) fun v14 =>
  nm (v14 + 1) fun v15 =>
  nm (up s13 (n + 1) 4 0 v15) fun s16 =>
  some (v1, s16)
def f2_add (n : Nat) (p1 : Int32) (σ : Sig) : Option (Int32 × Sig) :=
  nm (σ (n + 1) 5 0) fun v1 =>
  ast σ (n + 1) 27 50 v1 p1 fun s2 =>
  ast s2 (n + 1) 28 50 v1 (vp_nar .boolean 0) fun s3 =>
  nm (s3 (n + 1) 5 0) fun v4 =>
  nm (v4 + 1) fun v5 =>
  nm (up s3 (n + 1) 5 0 v5) fun s6 =>
  some (v1, s6)
def f4_sellPass (n : Nat) (p1 : Int32) (p2 : Int32) (p3 : Int32) (p4 : Int32) (σ : Sig) : Option (Int32 × Sig) :=
  bnd (f10_priceOfPass n p1 p3 p4 σ) fun v1 =>
  bns (f7_add n p1 p2 p3 p4 v1 σ) fun v2 s3 =>
  bns (f2_add n v2 s3) fun v4 s5 =>
  ast s5 (n + 1) 20 30 v2 v4 fun s6 =>
  nm (s6 (n + 1) 6 0) fun v7 =>
  nm (v7 + v1) fun v8 =>
  nm (up s6 (n + 1) 6 0 v8) fun s9 =>
  some (v2, s9)
def f9_readSell (σ : Sig) : Option (Sig) :=
  bnd (f10_setOfAllScents 10 σ) fun v1 =>
  bns (f9_nextNumber 1 v1 σ) fun v2 s3 =>
  bnd (f3_today 10 s3) fun v4 =>
  bns (f9_nextNumber v4 99 s3) fun v5 s6 =>
  bns (f9_nextNumber 1 14 s6) fun v7 s8 =>
  bns (f9_nextKind s8) fun v9 s10 =>
  bns (f9_isComplete s10) fun v11 s12 =>
  if v11 = 0 then
    some s12
  else
    bnd (f4_canSellPass 10 s12) fun v13 =>
    bns (f9_executes v13 s12) fun v14 s15 =>
    if v14 = 0 then
      some s15
    else
      bns (f4_sellPass 10 v2 v5 v7 v9 s15) fun v16 s17 =>
      some s17
def f3_tickOfDay (n : Nat) (σ : Sig) : Option (Int32) :=
  nm (σ (n + 1) 1 0) fun v1 =>
  rmd v1 96 fun v2 =>
  some v2
def f3_isOpenIn_b21 (n : Nat) (x1 : Int32) (t0 : Int32) (σ : Sig) : Option (Int32) :=
  if x1 < 32 then
    some 0
  else
    if (67 : Int32) < x1 then
      some 0
    else
      if t0 = 0 then
        some 1
      else
        some 0
def f3_isOpenIn_b20 (n : Nat) (x1 : Int32) (σ : Sig) : Option (Int32) :=
  f3_isOpenIn_b21 n x1 0 σ
def f3_isOpenIn (n : Nat) (p1 : Int32) (σ : Sig) : Option (Int32) :=
  nm (σ (n + 1) 1 1) fun v1 =>
  if p1 < v1 then
    f3_isOpenIn_b20 n p1 σ
  else
    nm (σ (n + 1) 1 2) fun v2 =>
    if v2 < p1 then
      f3_isOpenIn_b20 n p1 σ
    else
      f3_isOpenIn_b21 n p1 1 σ
def f7_isValidOn (n : Nat) (p1 : Int32) (p2 : Int32) (σ : Sig) : Option (Int32) :=
  ald (σ (n + 1) 16) 30 p1 fun v1 =>
  if p2 < v1 then
    some 0
  else
    ald (σ (n + 1) 16) 30 p1 fun v2 =>
    ald (σ (n + 1) 17) 30 p1 fun v3 =>
    nm (v2 + v3) fun v4 =>
    if v4 ≤ p2 then
      some 0
    else
      some 1
def f7_hasScent (n : Nat) (p1 : Int32) (p2 : Int32) (σ : Sig) : Option (Int32) :=
  ald (σ (n + 1) 15) 30 p1 fun v1 =>
  nm (v1 >>> (p2 &&& 31)) fun v2 =>
  nm (v2 &&& 1) fun v3 =>
  if v3 = 1 then
    some 1
  else
    some 0
def f4_waitForNextVisit (n : Nat) (p1 : Int32) (σ : Sig) : Option (Int32) :=
  ald (σ (n + 1) 24) 30 p1 fun v1 =>
  nm (σ (n + 1) 0 6) fun v2 =>
  nm (v1 + v2) fun v3 =>
  ald (σ (n + 1) 24) 30 p1 fun v4 =>
  if v4 = (-1) then
    some 0
  else
    nm (σ (n + 1) 1 0) fun v5 =>
    if v5 ≤ v3 then
      nm (σ (n + 1) 1 0) fun v6 =>
      nm (v3 - v6) fun v7 =>
      some v7
    else
      some 0
def f0_freePlaces (n : Nat) (p1 : Int32) (σ : Sig) : Option (Int32) :=
  ald (σ (n + 1) 9) 8 p1 fun v1 =>
  ald (σ (n + 1) 14) 8 p1 fun v2 =>
  nm (v1 - v2) fun v3 =>
  some v3
def f4_reasonOfRefusal (n : Nat) (p1 : Int32) (p2 : Int32) (σ : Sig) : Option (Int32) :=
  ald (σ (n + 1) 27) 50 p1 fun v1 =>
  bnd (f3_tickOfDay n σ) fun v2 =>
  bnd (f3_isOpenIn n v2 σ) fun v3 =>
  if v3 = 0 then
    some 1
  else
    ald (σ (n + 1) 28) 50 p1 fun v4 =>
    if v4 = 0 then
      bnd (f3_today n σ) fun v5 =>
      bnd (f7_isValidOn n v1 v5 σ) fun v6 =>
      if v6 = 0 then
        some 3
      else
        ald (σ (n + 1) 8) 8 p2 fun v7 =>
        bnd (f7_hasScent n v1 v7 σ) fun v8 =>
        if v8 = 0 then
          some 4
        else
          ald (σ (n + 1) 26) 30 v1 fun v9 =>
          if v9 ≤ 30 then
            bnd (f4_waitForNextVisit n v1 σ) fun v10 =>
            if v10 ≤ 0 then
              bnd (f0_freePlaces n p2 σ) fun v11 =>
              if v11 ≤ 0 then
                some 7
              else
                some 0
            else
              some 6
          else
            some 5
    else
      some 2
def f0_countVisit (n : Nat) (p1 : Int32) (σ : Sig) : Option (Sig) :=
  ald (σ (n + 1) 13) 8 p1 fun v1 =>
  nm (v1 + 1) fun v2 =>
  ast σ (n + 1) 13 8 p1 v2 fun s3 =>
  ald (s3 (n + 1) 14) 8 p1 fun v4 =>
  nm (v4 + 1) fun v5 =>
  ast s3 (n + 1) 14 8 p1 v5 fun s6 =>
  some s6
def f7_countVisit (n : Nat) (p1 : Int32) (p2 : Int32) (p3 : Int32) (p4 : Int32) (σ : Sig) : Option (Sig) :=
  ald (σ (n + 1) 22) 30 p1 fun v1 =>
  ald (σ (n + 1) 16) 30 p1 fun v2 =>
  nm (p4 - v2) fun v3 =>
  nm ((1 : Int32) <<< (v3 &&& 31)) fun v4 =>
  nm (v1 ||| v4) fun v5 =>
  ast σ (n + 1) 22 30 p1 v5 fun s6 =>
  ald (s6 (n + 1) 23) 30 p1 fun v7 =>
  nm (v7 + 1) fun v8 =>
  ast s6 (n + 1) 23 30 p1 v8 fun s9 =>
  ast s9 (n + 1) 24 30 p1 p3 fun s10 =>
  ast s10 (n + 1) 25 30 p1 p2 fun s11 =>
  some s11
def f4_showCard_b25 (n : Nat) (x1 : Int32) (x2 : Int32) (x3 : Int32) (σ : Sig) : Option (Int32 × Sig) :=
  if x3 = 0 then
    bnd (f0_countVisit n x2 σ) fun s1 =>
    ald (s1 (n + 1) 27) 50 x1 fun v2 =>
    nm (s1 (n + 1) 1 0) fun v3 =>
    bnd (f3_today n s1) fun v4 =>
    bnd (f7_countVisit n v2 x2 v3 v4 s1) fun s5 =>
    some (x3, s5)
  else
    some (x3, σ)
def f4_showCard (n : Nat) (p1 : Int32) (p2 : Int32) (σ : Sig) : Option (Int32 × Sig) :=
  bnd (f4_reasonOfRefusal n p1 p2 σ) fun v6 =>
  if v6 = 2 then
    nm (σ (n + 1) 6 5) fun v7 =>
    nm (v7 + 1) fun v8 =>
    nm (up σ (n + 1) 6 5 v8) fun s9 =>
    f4_showCard_b25 n p1 p2 v6 s9
  else
    f4_showCard_b25 n p1 p2 v6 σ
def f9_readVisit_b61 (t1 : Int32) (σ : Sig) : Option (Sig) :=
  bns (f9_executes t1 σ) fun v1 s2 =>
  some s2
def f9_readVisit (σ : Sig) : Option (Sig) :=
  nm (σ (10 + 1) 5 0) fun v3 =>
  nm (v3 - 1) fun v4 =>
  bns (f9_nextNumber 0 v4 σ) fun v5 s6 =>
  nm (s6 (10 + 1) 3 0) fun v7 =>
  nm (v7 - 1) fun v8 =>
  bns (f9_nextNumber 0 v8 s6) fun v9 s10 =>
  bns (f9_isComplete s10) fun v11 s12 =>
  if v11 = 0 then
    some s12
  else
    bns (f4_showCard 10 v5 v9 s12) fun v13 s14 =>
    if v13 = 0 then
      f9_readVisit_b61 1 s14
    else
      f9_readVisit_b61 0 s14
def f0_has (n : Nat) (p1 : Int32) (σ : Sig) : Option (Int32) :=
  if p1 < 0 then
    some 0
  else
    nm (σ (n + 1) 3 0) fun v1 =>
    if v1 ≤ p1 then
      some 0
    else
      some 1
def f4_canPluck (n : Nat) (p1 : Int32) (p2 : Int32) (σ : Sig) : Option (Int32) :=
  ald (σ (n + 1) 27) 50 p1 fun v1 =>
  ald (σ (n + 1) 25) 30 v1 fun v2 =>
  ald (σ (n + 1) 28) 50 p1 fun v3 =>
  if v3 = 0 then
    ald (σ (n + 1) 24) 30 v1 fun v4 =>
    nm (σ (n + 1) 1 0) fun v5 =>
    if v4 = v5 then
      bnd (f0_has n v2 σ) fun v6 =>
      if v6 = 0 then
        some 0
      else
        ald (σ (n + 1) 12) 8 v2 fun v7 =>
        if v7 < p2 then
          some 0
        else
          some 1
    else
      some 0
  else
    some 0
def f0_hasSeasonOn (n : Nat) (p1 : Int32) (p2 : Int32) (σ : Sig) : Option (Int32) :=
  ald (σ (n + 1) 10) 8 p1 fun v1 =>
  if p2 < v1 then
    some 0
  else
    ald (σ (n + 1) 11) 8 p1 fun v2 =>
    if v2 < p2 then
      some 0
    else
      some 1
def f4_fineToday_b37 (n : Nat) (x2 : Int32) (t0 : Int32) (σ : Sig) : Option (Int32) :=
  nm (t0 * x2) fun v1 =>
  some v1
def f4_fineToday (n : Nat) (p1 : Int32) (p2 : Int32) (σ : Sig) : Option (Int32) :=
  bnd (f3_today n σ) fun v2 =>
  bnd (f0_hasSeasonOn n p1 v2 σ) fun v3 =>
  if v3 = 0 then
    nm (σ (n + 1) 2 1) fun v4 =>
    f4_fineToday_b37 n p2 v4 σ
  else
    nm (σ (n + 1) 2 1) fun v5 =>
    nm ((2 : Int32) * v5) fun v6 =>
    f4_fineToday_b37 n p2 v6 σ
def f4_pluckBlooms (n : Nat) (p1 : Int32) (p2 : Int32) (σ : Sig) : Option (Int32 × Sig) :=
  ald (σ (n + 1) 27) 50 p1 fun v1 =>
  ald (σ (n + 1) 25) 30 v1 fun v2 =>
  bnd (f4_fineToday n v2 p2 σ) fun v3 =>
  ald (σ (n + 1) 12) 8 v2 fun v4 =>
  nm (v4 - p2) fun v5 =>
  ast σ (n + 1) 12 8 v2 v5 fun s6 =>
  ald (s6 (n + 1) 26) 30 v1 fun v7 =>
  nm (v7 + v3) fun v8 =>
  ast s6 (n + 1) 26 30 v1 v8 fun s9 =>
  nm (s9 (n + 1) 6 2) fun v10 =>
  nm (v10 + v3) fun v11 =>
  nm (up s9 (n + 1) 6 2 v11) fun s12 =>
  nm (s12 (n + 1) 6 4) fun v13 =>
  nm (v13 + p2) fun v14 =>
  nm (up s12 (n + 1) 6 4 v14) fun s15 =>
  some (v3, s15)
def f9_readPluck (σ : Sig) : Option (Sig) :=
  nm (σ (10 + 1) 5 0) fun v1 =>
  nm (v1 - 1) fun v2 =>
  bns (f9_nextNumber 0 v2 σ) fun v3 s4 =>
  bns (f9_nextNumber 1 9 s4) fun v5 s6 =>
  bns (f9_isComplete s6) fun v7 s8 =>
  if v7 = 0 then
    some s8
  else
    bnd (f4_canPluck 10 v3 v5 s8) fun v9 =>
    bns (f9_executes v9 s8) fun v10 s11 =>
    if v10 = 0 then
      some s11
    else
      bns (f4_pluckBlooms 10 v3 v5 s11) fun v12 s13 =>
      some s13
def f4_payFinesOf (n : Nat) (p1 : Int32) (p2 : Int32) (σ : Sig) : Option (Sig) :=
  ald (σ (n + 1) 26) 30 p1 fun v1 =>
  nm (v1 - p2) fun v2 =>
  ast σ (n + 1) 26 30 p1 v2 fun s3 =>
  nm (s3 (n + 1) 6 3) fun v4 =>
  nm (v4 + p2) fun v5 =>
  nm (up s3 (n + 1) 6 3 v5) fun s6 =>
  nm (s6 (n + 1) 6 0) fun v7 =>
  nm (v7 + p2) fun v8 =>
  nm (up s6 (n + 1) 6 0 v8) fun s9 =>
  some s9
def f9_readPay_b56 (x1 : Int32) (x2 : Int32) (t1 : Int32) (σ : Sig) : Option (Sig) :=
  bns (f9_executes t1 σ) fun v1 s2 =>
  if v1 = 0 then
    some s2
  else
    bnd (f4_payFinesOf 10 x1 x2 s2) fun s3 =>
    some s3
def f9_readPay (σ : Sig) : Option (Sig) :=
  nm (σ (10 + 1) 4 0) fun v4 =>
  nm (v4 - 1) fun v5 =>
  bns (f9_nextNumber 0 v5 σ) fun v6 s7 =>
  bns (f9_nextNumber 1 9999 s7) fun v8 s9 =>
  bns (f9_isComplete s9) fun v10 s11 =>
  if v10 = 0 then
    some s11
  else
    ald (s11 (10 + 1) 26) 30 v6 fun v12 =>
    if v12 < v8 then
      f9_readPay_b56 v6 v8 0 s11
    else
      f9_readPay_b56 v6 v8 1 s11
def f7_hasCard (n : Nat) (p1 : Int32) (σ : Sig) : Option (Int32) :=
  ald (σ (n + 1) 20) 30 p1 fun v1 =>
  if v1 = (-1) then
    some 0
  else
    some 1
def f2_has (n : Nat) (p1 : Int32) (σ : Sig) : Option (Int32) :=
  if p1 < 0 then
    some 0
  else
    nm (σ (n + 1) 5 0) fun v1 =>
    if v1 ≤ p1 then
      some 0
    else
      some 1
def f4_blockCardOf_b31 (n : Nat) (x1 : Int32) (x2 : Int32) (σ : Sig) : Option (Int32 × Sig) :=
  ast σ (n + 1) 20 30 x1 (-1) fun s1 =>
  some (x2, s1)
def f4_blockCardOf (n : Nat) (p1 : Int32) (σ : Sig) : Option (Int32 × Sig) :=
  ald (σ (n + 1) 20) 30 p1 fun v2 =>
  bnd (f2_has n v2 σ) fun v3 =>
  if v3 = 0 then
    f4_blockCardOf_b31 n p1 v2 σ
  else
    ast σ (n + 1) 28 50 v2 (vp_nar .boolean 1) fun s4 =>
    f4_blockCardOf_b31 n p1 v2 s4
def f9_readLost (σ : Sig) : Option (Sig) :=
  nm (σ (10 + 1) 4 0) fun v1 =>
  nm (v1 - 1) fun v2 =>
  bns (f9_nextNumber 0 v2 σ) fun v3 s4 =>
  bns (f9_isComplete s4) fun v5 s6 =>
  if v5 = 0 then
    some s6
  else
    bnd (f7_hasCard 10 v3 s6) fun v7 =>
    bns (f9_executes v7 s6) fun v8 s9 =>
    if v8 = 0 then
      some s9
    else
      bns (f4_blockCardOf 10 v3 s9) fun v10 s11 =>
      some s11
def f4_canReplaceCard (n : Nat) (p1 : Int32) (σ : Sig) : Option (Int32) :=
  bnd (f7_hasCard n p1 σ) fun v1 =>
  if v1 = 0 then
    ald (σ (n + 1) 21) 30 p1 fun v2 =>
    if v2 = 0 then
      bnd (f2_hasRoom n σ) fun v3 =>
      if v3 = 0 then
        some 0
      else
        some 1
    else
      some 0
  else
    some 0
def f4_issueNewCard (n : Nat) (p1 : Int32) (σ : Sig) : Option (Int32 × Sig) :=
  bns (f2_add n p1 σ) fun v1 s2 =>
  ast s2 (n + 1) 20 30 p1 v1 fun s3 =>
  nm (s3 (n + 1) 6 0) fun v4 =>
  nm (v4 + 5) fun v5 =>
  nm (up s3 (n + 1) 6 0 v5) fun s6 =>
  ald (s6 (n + 1) 20) 30 p1 fun v7 =>
  some (v7, s6)
def f9_readReplace (σ : Sig) : Option (Sig) :=
  nm (σ (10 + 1) 4 0) fun v1 =>
  nm (v1 - 1) fun v2 =>
  bns (f9_nextNumber 0 v2 σ) fun v3 s4 =>
  bns (f9_isComplete s4) fun v5 s6 =>
  if v5 = 0 then
    some s6
  else
    bnd (f4_canReplaceCard 10 v3 s6) fun v7 =>
    bns (f9_executes v7 s6) fun v8 s9 =>
    if v8 = 0 then
      some s9
    else
      bns (f4_issueNewCard 10 v3 s9) fun v10 s11 =>
      some s11
def f9_readPeacocks (σ : Sig) : Option (Sig) :=
  bns (f9_nextNumber 0 95 σ) fun v1 s2 =>
  bns (f9_nextNumber v1 95 s2) fun v3 s4 =>
  bns (f9_isComplete s4) fun v5 s6 =>
  if v5 = 0 then
    some s6
  else
    bnd (f3_letPeacocksWalk 10 v1 v3 s6) fun s7 =>
    some s7
def f3_canGoOn (n : Nat) (p1 : Int32) (σ : Sig) : Option (Int32) :=
  nm (σ (n + 1) 1 0) fun v1 =>
  nm (v1 + p1) fun v2 =>
  if (9599 : Int32) < v2 then
    some 0
  else
    some 1
def f0_beginTick_b2 (n : Nat) : Nat → Int32 → Sig → Option Sig
  | 0, _, _ => none
  | fu + 1, x1, σ =>
    nm (σ (n + 1) 3 0) fun v1 =>
    if v1 ≤ x1 then
      some σ
    else
      ast σ (n + 1) 14 8 x1 0 fun s2 =>
      nm (x1 + 1) fun v3 =>
      f0_beginTick_b2 n fu v3 s2
def f0_beginTick (n : Nat) (σ : Sig) : Option (Sig) :=
  f0_beginTick_b2 n FU 0 σ
def f0_beginDay_b38 (n : Nat) (rc : Int32 → Int32 → Sig → Option (Sig)) (x1 : Int32) (x2 : Int32) (σ : Sig) : Option (Sig) :=
  nm (x2 + 1) fun v1 =>
  rc x1 v1 σ
def f0_beginDay_b2 (n : Nat) : Nat → Int32 → Int32 → Sig → Option Sig
  | 0, _, _, _ => none
  | fu + 1, x1, x2, σ =>
    nm (σ (n + 1) 3 0) fun v2 =>
    if v2 ≤ x2 then
      some σ
    else
      bnd (f0_hasSeasonOn n x2 x1 σ) fun v3 =>
      if v3 = 0 then
        f0_beginDay_b38 n (f0_beginDay_b2 n fu) x1 x2 σ
      else
        ald (σ (n + 1) 12) 8 x2 fun v4 =>
        nm (v4 + 3) fun v5 =>
        nm (if v5 < 50 then v5 else 50) fun v6 =>
        ast σ (n + 1) 12 8 x2 v6 fun s7 =>
        f0_beginDay_b38 n (f0_beginDay_b2 n fu) x1 x2 s7
def f0_beginDay (n : Nat) (p1 : Int32) (σ : Sig) : Option (Sig) :=
  f0_beginDay_b2 n FU p1 0 σ
def f4_letTicksPass_b32 (n : Nat) : Nat → Int32 → Sig → Option Sig
  | 0, _, _ => none
  | fu + 1, x3, σ =>
    bnd (f3_today n σ) fun v1 =>
    if v1 < x3 then
      some σ
    else
      bnd (f0_beginDay n x3 σ) fun s2 =>
      nm (x3 + 1) fun v3 =>
      f4_letTicksPass_b32 n fu v3 s2
def f4_letTicksPass (n : Nat) (p1 : Int32) (σ : Sig) : Option (Sig) :=
  bnd (f3_today n σ) fun v4 =>
  nm (σ (n + 1) 1 0) fun v5 =>
  nm (v5 + p1) fun v6 =>
  nm (up σ (n + 1) 1 0 v6) fun s7 =>
  bnd (f0_beginTick n s7) fun s8 =>
  nm (v4 + 1) fun v9 =>
  f4_letTicksPass_b32 n FU v9 s8
def f9_readPass (σ : Sig) : Option (Sig) :=
  bns (f9_nextNumber 1 500 σ) fun v1 s2 =>
  bns (f9_isComplete s2) fun v3 s4 =>
  if v3 = 0 then
    some s4
  else
    bnd (f3_canGoOn 10 v1 s4) fun v5 =>
    bns (f9_executes v5 s4) fun v6 s7 =>
    if v6 = 0 then
      some s7
    else
      bnd (f4_letTicksPass 10 v1 s7) fun s8 =>
      some s8
def f7_countDaysLeft_b44 (n : Nat) (rc : Int32 → Int32 → Int32 → Sig → Option (Int32)) (x1 : Int32) (x3 : Int32) (x4 : Int32) (σ : Sig) : Option (Int32) :=
  nm (x4 + 1) fun v1 =>
  rc x1 x3 v1 σ
def f7_countDaysLeft_b16 (n : Nat) : Nat → Int32 → Int32 → Int32 → Sig → Option Int32
  | 0, _, _, _, _ => none
  | fu + 1, x1, x3, x4, σ =>
    ald (σ (n + 1) 17) 30 x1 fun v2 =>
    if v2 ≤ x4 then
      some x3
    else
      ald (σ (n + 1) 22) 30 x1 fun v3 =>
      nm (v3 >>> (x4 &&& 31)) fun v4 =>
      nm (v4 &&& 1) fun v5 =>
      if v5 = 0 then
        nm (x3 + 1) fun v6 =>
        f7_countDaysLeft_b44 n (f7_countDaysLeft_b16 n fu) x1 v6 x4 σ
      else
        f7_countDaysLeft_b44 n (f7_countDaysLeft_b16 n fu) x1 x3 x4 σ
def f7_countDaysLeft (n : Nat) (p1 : Int32) (p2 : Int32) (σ : Sig) : Option (Int32) :=
  ald (σ (n + 1) 16) 30 p1 fun v7 =>
  nm (p2 - v7) fun v8 =>
  nm (if (0 : Int32) < v8 then v8 else 0) fun v9 =>
  f7_countDaysLeft_b16 n FU p1 0 v9 σ
def f4_refundNow (n : Nat) (p1 : Int32) (σ : Sig) : Option (Int32) :=
  ald (σ (n + 1) 17) 30 p1 fun v1 =>
  ald (σ (n + 1) 21) 30 p1 fun v2 =>
  if v2 = 0 then
    if v1 = 0 then
      some 0
    else
      ald (σ (n + 1) 19) 30 p1 fun v3 =>
      bnd (f3_today n σ) fun v4 =>
      bnd (f7_countDaysLeft n p1 v4 σ) fun v5 =>
      nm (v3 * v5) fun v6 =>
      dvd v6 v1 fun v7 =>
      dvd v7 2 fun v8 =>
      some v8
  else
    some 0
def f4_takeBackPass (n : Nat) (p1 : Int32) (σ : Sig) : Option (Int32 × Sig) :=
  bnd (f4_refundNow n p1 σ) fun v1 =>
  ald (σ (n + 1) 26) 30 p1 fun v2 =>
  nm (if v2 < v1 then v2 else v1) fun v3 =>
  nm (σ (n + 1) 6 1) fun v4 =>
  nm (v4 + v1) fun v5 =>
  nm (up σ (n + 1) 6 1 v5) fun s6 =>
  bnd (f4_payFinesOf n p1 v3 s6) fun s7 =>
  bns (f4_blockCardOf n p1 s7) fun v8 s9 =>
  ast s9 (n + 1) 21 30 p1 (vp_nar .boolean 1) fun s10 =>
  nm (v1 - v3) fun v11 =>
  some (v11, s10)
def f9_readRefund_b46 (x1 : Int32) (t1 : Int32) (σ : Sig) : Option (Sig) :=
  bns (f9_executes t1 σ) fun v1 s2 =>
  if v1 = 0 then
    some s2
  else
    bns (f4_takeBackPass 10 x1 s2) fun v3 s4 =>
    some s4
def f9_readRefund (σ : Sig) : Option (Sig) :=
  nm (σ (10 + 1) 4 0) fun v5 =>
  nm (v5 - 1) fun v6 =>
  bns (f9_nextNumber 0 v6 σ) fun v7 s8 =>
  bns (f9_isComplete s8) fun v9 s10 =>
  if v9 = 0 then
    some s10
  else
    ald (s10 (10 + 1) 21) 30 v7 fun v11 =>
    if v11 = 0 then
      f9_readRefund_b46 v7 1 s10
    else
      f9_readRefund_b46 v7 0 s10
def f9_readCommand_b195 (σ : Sig) : Option (Sig) :=
  nm (σ 0 3 2) fun v1 =>
  if v1 = 0 then
    bnd (f6_readNext σ) fun s2 =>
    some s2
  else
    some σ
def f9_readCommand (σ : Sig) : Option (Sig) :=
  bnd (f6_isWord 2 σ) fun v3 =>
  if v3 = 0 then
    bnd (f6_isWord 3 σ) fun v4 =>
    if v4 = 0 then
      bnd (f6_isWord 6 σ) fun v5 =>
      if v5 = 0 then
        bnd (f6_isWord 7 σ) fun v6 =>
        if v6 = 0 then
          bnd (f6_isWord 8 σ) fun v7 =>
          if v7 = 0 then
            bnd (f6_isWord 9 σ) fun v8 =>
            if v8 = 0 then
              bnd (f6_isWord 10 σ) fun v9 =>
              if v9 = 0 then
                bnd (f6_isWord 11 σ) fun v10 =>
                if v10 = 0 then
                  bnd (f6_isWord 12 σ) fun v11 =>
                  if v11 = 0 then
                    bnd (f6_isWord 13 σ) fun v12 =>
                    if v12 = 0 then
                      bnd (f9_fail 1 σ) fun s13 =>
                      f9_readCommand_b195 s13
                    else
                      bnd (f9_readRefund σ) fun s14 =>
                      f9_readCommand_b195 s14
                  else
                    bnd (f9_readPass σ) fun s15 =>
                    f9_readCommand_b195 s15
                else
                  bnd (f9_readPeacocks σ) fun s16 =>
                  f9_readCommand_b195 s16
              else
                bnd (f9_readReplace σ) fun s17 =>
                f9_readCommand_b195 s17
            else
              bnd (f9_readLost σ) fun s18 =>
              f9_readCommand_b195 s18
          else
            bnd (f9_readPay σ) fun s19 =>
            f9_readCommand_b195 s19
        else
          bnd (f9_readPluck σ) fun s20 =>
          f9_readCommand_b195 s20
      else
        bnd (f9_readVisit σ) fun s21 =>
        f9_readCommand_b195 s21
    else
      bnd (f9_readSell σ) fun s22 =>
      f9_readCommand_b195 s22
  else
    bnd (f9_readBed σ) fun s23 =>
    f9_readCommand_b195 s23
def f9_execute_b30 : Nat → Int32 → Sig → Option Sig
  | 0, _, _ => none
  | fu + 1, x1, σ =>
    if (500 : Int32) ≤ x1 then
      some σ
    else
      bnd (f9_goesOn σ) fun v1 =>
      if v1 = 0 then
        some σ
      else
        bnd (f9_readCommand σ) fun s2 =>
        nm (x1 + 1) fun v3 =>
        f9_execute_b30 fu v3 s2
def f9_execute (σ : Sig) : Option (Sig) :=
  bnd (f4_reset 10 σ) fun s4 =>
  nm (up s4 0 3 2 0) fun s5 =>
  nm (up s5 0 3 3 (-1)) fun s6 =>
  bnd (f6_readFirst s6) fun s7 =>
  bnd (f9_readGarden s7) fun s8 =>
  f9_execute_b30 FU 0 s8
def f3_copyFrom (n : Nat) (n1 : Nat) (σ : Sig) : Option (Sig) :=
  nm (σ (n1 + 1) 1 0) fun v1 =>
  nm (up σ (n + 1) 1 0 v1) fun s2 =>
  nm (s2 (n1 + 1) 1 1) fun v3 =>
  nm (s2 (n1 + 1) 1 2) fun v4 =>
  bnd (f3_letPeacocksWalk n v3 v4 s2) fun s5 =>
  some s5
def f10_copyFrom (n : Nat) (n1 : Nat) (σ : Sig) : Option (Sig) :=
  nm (σ (n1 + 1) 2 0) fun v1 =>
  nm (up σ (n + 1) 2 0 v1) fun s2 =>
  nm (s2 (n1 + 1) 2 1) fun v3 =>
  nm (up s2 (n + 1) 2 1 v3) fun s4 =>
  nm (s4 (n + 1) 2 0) fun v5 =>
  acp s4 (n1 + 1) 7 5 (n + 1) 7 5 0 0 v5 fun s6 =>
  some s6
def f0_copyFrom (n : Nat) (n1 : Nat) (σ : Sig) : Option (Sig) :=
  nm (σ (n1 + 1) 3 0) fun v1 =>
  nm (up σ (n + 1) 3 0 v1) fun s2 =>
  nm (s2 (n + 1) 3 0) fun v3 =>
  acp s2 (n1 + 1) 8 8 (n + 1) 8 8 0 0 v3 fun s4 =>
  nm (s4 (n + 1) 3 0) fun v5 =>
  acp s4 (n1 + 1) 9 8 (n + 1) 9 8 0 0 v5 fun s6 =>
  nm (s6 (n + 1) 3 0) fun v7 =>
  acp s6 (n1 + 1) 10 8 (n + 1) 10 8 0 0 v7 fun s8 =>
  nm (s8 (n + 1) 3 0) fun v9 =>
  acp s8 (n1 + 1) 11 8 (n + 1) 11 8 0 0 v9 fun s10 =>
  nm (s10 (n + 1) 3 0) fun v11 =>
  acp s10 (n1 + 1) 12 8 (n + 1) 12 8 0 0 v11 fun s12 =>
  nm (s12 (n + 1) 3 0) fun v13 =>
  acp s12 (n1 + 1) 13 8 (n + 1) 13 8 0 0 v13 fun s14 =>
  nm (s14 (n + 1) 3 0) fun v15 =>
  acp s14 (n1 + 1) 14 8 (n + 1) 14 8 0 0 v15 fun s16 =>
  some s16
def f7_copyFrom_b197 (n : Nat) (n1 : Nat) : Nat → Int32 → Sig → Option Sig
  | 0, _, _ => none
  | fu + 1, x2, σ =>
    nm (σ (n + 1) 4 0) fun v1 =>
    if v1 ≤ x2 then
      some σ
    else
      ald (σ (n1 + 1) 21) 30 x2 fun v2 =>
      ast σ (n + 1) 21 30 x2 (vp_nar .boolean v2) fun s3 =>
      nm (x2 + 1) fun v4 =>
      f7_copyFrom_b197 n n1 fu v4 s3
def f7_copyFrom (n : Nat) (n1 : Nat) (σ : Sig) : Option (Sig) :=
  nm (σ (n1 + 1) 4 0) fun v5 =>
  nm (up σ (n + 1) 4 0 v5) fun s6 =>
  nm (s6 (n + 1) 4 0) fun v7 =>
  acp s6 (n1 + 1) 15 30 (n + 1) 15 30 0 0 v7 fun s8 =>
  nm (s8 (n + 1) 4 0) fun v9 =>
  acp s8 (n1 + 1) 16 30 (n + 1) 16 30 0 0 v9 fun s10 =>
  nm (s10 (n + 1) 4 0) fun v11 =>
  acp s10 (n1 + 1) 17 30 (n + 1) 17 30 0 0 v11 fun s12 =>
  nm (s12 (n + 1) 4 0) fun v13 =>
  acp s12 (n1 + 1) 18 30 (n + 1) 18 30 0 0 v13 fun s14 =>
  nm (s14 (n + 1) 4 0) fun v15 =>
  acp s14 (n1 + 1) 19 30 (n + 1) 19 30 0 0 v15 fun s16 =>
  nm (s16 (n + 1) 4 0) fun v17 =>
  acp s16 (n1 + 1) 20 30 (n + 1) 20 30 0 0 v17 fun s18 =>
  nm (s18 (n + 1) 4 0) fun v19 =>
  acp s18 (n1 + 1) 22 30 (n + 1) 22 30 0 0 v19 fun s20 =>
  nm (s20 (n + 1) 4 0) fun v21 =>
  acp s20 (n1 + 1) 23 30 (n + 1) 23 30 0 0 v21 fun s22 =>
  nm (s22 (n + 1) 4 0) fun v23 =>
  acp s22 (n1 + 1) 24 30 (n + 1) 24 30 0 0 v23 fun s24 =>
  nm (s24 (n + 1) 4 0) fun v25 =>
  acp s24 (n1 + 1) 25 30 (n + 1) 25 30 0 0 v25 fun s26 =>
  nm (s26 (n + 1) 4 0) fun v27 =>
  acp s26 (n1 + 1) 26 30 (n + 1) 26 30 0 0 v27 fun s28 =>
  f7_copyFrom_b197 n n1 FU 0 s28
def f2_copyFrom_b27 (n : Nat) (n1 : Nat) : Nat → Int32 → Sig → Option Sig
  | 0, _, _ => none
  | fu + 1, x2, σ =>
    nm (σ (n + 1) 5 0) fun v1 =>
    if v1 ≤ x2 then
      some σ
    else
      ald (σ (n1 + 1) 28) 50 x2 fun v2 =>
      ast σ (n + 1) 28 50 x2 (vp_nar .boolean v2) fun s3 =>
      nm (x2 + 1) fun v4 =>
      f2_copyFrom_b27 n n1 fu v4 s3
def f2_copyFrom (n : Nat) (n1 : Nat) (σ : Sig) : Option (Sig) :=
  nm (σ (n1 + 1) 5 0) fun v5 =>
  nm (up σ (n + 1) 5 0 v5) fun s6 =>
  nm (s6 (n + 1) 5 0) fun v7 =>
  acp s6 (n1 + 1) 27 50 (n + 1) 27 50 0 0 v7 fun s8 =>
  f2_copyFrom_b27 n n1 FU 0 s8
def f1_copyFrom (n : Nat) (n1 : Nat) (σ : Sig) : Option (Sig) :=
  nm (σ (n1 + 1) 6 0) fun v1 =>
  nm (up σ (n + 1) 6 0 v1) fun s2 =>
  nm (s2 (n1 + 1) 6 1) fun v3 =>
  nm (up s2 (n + 1) 6 1 v3) fun s4 =>
  nm (s4 (n1 + 1) 6 2) fun v5 =>
  nm (up s4 (n + 1) 6 2 v5) fun s6 =>
  nm (s6 (n1 + 1) 6 3) fun v7 =>
  nm (up s6 (n + 1) 6 3 v7) fun s8 =>
  nm (s8 (n1 + 1) 6 4) fun v9 =>
  nm (up s8 (n + 1) 6 4 v9) fun s10 =>
  nm (s10 (n1 + 1) 6 5) fun v11 =>
  nm (up s10 (n + 1) 6 5 v11) fun s12 =>
  some s12
def f4_copyFrom (n : Nat) (n1 : Nat) (σ : Sig) : Option (Sig) :=
  bnd (f3_copyFrom n n1 σ) fun s1 =>
  bnd (f10_copyFrom n n1 s1) fun s2 =>
  bnd (f0_copyFrom n n1 s2) fun s3 =>
  bnd (f7_copyFrom n n1 s3) fun s4 =>
  bnd (f2_copyFrom n n1 s4) fun s5 =>
  bnd (f1_copyFrom n n1 s5) fun s6 =>
  nm (s6 (n1 + 1) 0 6) fun v7 =>
  nm (up s6 (n + 1) 0 6 v7) fun s8 =>
  some s8
def f5_remember (n1 : Nat) (σ : Sig) : Option (Sig) :=
  nm (σ 0 1 2) fun v1 =>
  alr 8 v1 fun j2 =>
  bnd (f4_copyFrom j2 n1 σ) fun s3 =>
  nm (s3 0 1 2) fun v4 =>
  nm (v4 + 1) fun v5 =>
  rmd v5 8 fun v6 =>
  nm (up s3 0 1 2 v6) fun s7 =>
  nm (s7 0 1 1) fun v8 =>
  nm (v8 + 1) fun v9 =>
  nm (if v9 < 8 then v9 else 8) fun v10 =>
  nm (up s7 0 1 1 v10) fun s11 =>
  some s11
def f11_runScript (σ : Sig) : Option (Int32 × Sig) :=
  bnd (f9_execute σ) fun s1 =>
  nm (up s1 0 4 1 0) fun s2 =>
  nm (s2 0 3 2) fun v3 =>
  if v3 = 0 then
    bnd (f5_remember 8 s2) fun s4 =>
    bnd (f4_copyFrom 8 10 s4) fun s5 =>
    nm (s5 (8 + 1) 4 0) fun v6 =>
    some (v6, s5)
  else
    some ((-1), s2)
def f10_has (n : Nat) (p1 : Int32) (σ : Sig) : Option (Int32) :=
  if p1 < 0 then
    some 0
  else
    nm (σ (n + 1) 2 0) fun v1 =>
    if v1 ≤ p1 then
      some 0
    else
      some 1
def f11_requireScent (p1 : Int32) (σ : Sig) : Option (Xe) :=
  bnd (f10_has 8 p1 σ) fun v1 =>
  if v1 = 0 then
    some (2, 0, σ)
  else
    some (0, 0, σ)
def f11_requireRange_b10 (σ : Sig) : Option (Xe) :=
  some (1, 0, σ)
def f11_requireRange (p0 : Int32) (p1 : Int32) (p2 : Int32) (σ : Sig) : Option (Xe) :=
  if p0 < p1 then
    f11_requireRange_b10 σ
  else
    if p0 ≤ p2 then
      some (0, 0, σ)
    else
      f11_requireRange_b10 σ
def f11_setPrice (p1 : Int32) (p2 : Int32) (σ : Sig) : Option (Xe) :=
  bnx (f11_requireScent p1 σ) fun v1 s2 =>
  bnx (f11_requireRange p2 1 99 s2) fun v3 s4 =>
  bnd (f5_remember 8 s4) fun s5 =>
  ald (s5 (8 + 1) 7) 5 p1 fun v6 =>
  ast s5 (8 + 1) 7 5 p1 p2 fun s7 =>
  some (0, v6, s7)
def f11_setRate (p1 : Int32) (σ : Sig) : Option (Xe) :=
  bnx (f11_requireRange p1 1 20 σ) fun v1 s2 =>
  bnd (f5_remember 8 s2) fun s3 =>
  nm (s3 (8 + 1) 2 1) fun v4 =>
  nm (up s3 (8 + 1) 2 1 p1) fun s5 =>
  some (0, v4, s5)
def f11_requireState (p0 : Int32) (σ : Sig) : Option (Xe) :=
  if p0 = 0 then
    some (3, 0, σ)
  else
    some (0, 0, σ)
def f11_layBed (p1 : Int32) (p2 : Int32) (p3 : Int32) (p4 : Int32) (σ : Sig) : Option (Xe) :=
  bnx (f11_requireScent p1 σ) fun v1 s2 =>
  bnx (f11_requireRange p2 1 20 s2) fun v3 s4 =>
  bnx (f11_requireRange p3 0 99 s4) fun v5 s6 =>
  bnx (f11_requireRange p4 p3 99 s6) fun v7 s8 =>
  bnd (f0_hasRoom 8 s8) fun v9 =>
  bnx (f11_requireState v9 s8) fun v10 s11 =>
  bnd (f5_remember 8 s11) fun s12 =>
  bns (f0_add 8 p1 p2 p3 p4 s12) fun v13 s14 =>
  some (0, v13, s14)
def f3_openTicksOfDay_b22 (n : Nat) (rc : Int32 → Int32 → Sig → Option (Int32)) (x1 : Int32) (x2 : Int32) (σ : Sig) : Option (Int32) :=
  nm (x2 + 1) fun v1 =>
  rc x1 v1 σ
def f3_openTicksOfDay_b5 (n : Nat) : Nat → Int32 → Int32 → Sig → Option Int32
  | 0, _, _, _ => none
  | fu + 1, x1, x2, σ =>
    if (67 : Int32) < x2 then
      some x1
    else
      bnd (f3_isOpenIn n x2 σ) fun v2 =>
      if v2 = 0 then
        f3_openTicksOfDay_b22 n (f3_openTicksOfDay_b5 n fu) x1 x2 σ
      else
        nm (x1 + 1) fun v3 =>
        f3_openTicksOfDay_b22 n (f3_openTicksOfDay_b5 n fu) v3 x2 σ
def f3_openTicksOfDay (n : Nat) (σ : Sig) : Option (Int32) :=
  f3_openTicksOfDay_b5 n FU 0 32 σ
def f11_setPeacocks (p1 : Int32) (p2 : Int32) (σ : Sig) : Option (Xe) :=
  bnx (f11_requireRange p1 0 95 σ) fun v1 s2 =>
  bnx (f11_requireRange p2 p1 95 s2) fun v3 s4 =>
  bnd (f5_remember 8 s4) fun s5 =>
  bnd (f3_letPeacocksWalk 8 p1 p2 s5) fun s6 =>
  bnd (f3_openTicksOfDay 8 s6) fun v7 =>
  some (0, v7, s6)
def f11_setPause (p1 : Int32) (σ : Sig) : Option (Xe) :=
  bnx (f11_requireRange p1 0 8 σ) fun v1 s2 =>
  bnd (f5_remember 8 s2) fun s3 =>
  nm (s3 (8 + 1) 0 6) fun v4 =>
  nm (up s3 (8 + 1) 0 6 p1) fun s5 =>
  some (0, v4, s5)
def f11_requireSetOfScents (p1 : Int32) (σ : Sig) : Option (Xe) :=
  bnd (f10_setOfAllScents 8 σ) fun v1 =>
  bnx (f11_requireRange p1 1 v1 σ) fun v2 s3 =>
  some (0, 0, s3)
def f11_sell (p1 : Int32) (p2 : Int32) (p3 : Int32) (p4 : Int32) (σ : Sig) : Option (Xe) :=
  bnx (f11_requireSetOfScents p1 σ) fun v1 s2 =>
  bnd (f3_today 8 s2) fun v3 =>
  bnx (f11_requireRange p2 v3 99 s2) fun v4 s5 =>
  bnx (f11_requireRange p3 1 14 s5) fun v6 s7 =>
  bnx (f11_requireRange p4 0 1 s7) fun v8 s9 =>
  bnd (f4_canSellPass 8 s9) fun v10 =>
  bnx (f11_requireState v10 s9) fun v11 s12 =>
  bnd (f5_remember 8 s12) fun s13 =>
  bns (f4_sellPass 8 p1 p2 p3 p4 s13) fun v14 s15 =>
  some (0, v14, s15)
def f7_has (n : Nat) (p1 : Int32) (σ : Sig) : Option (Int32) :=
  if p1 < 0 then
    some 0
  else
    nm (σ (n + 1) 4 0) fun v1 =>
    if v1 ≤ p1 then
      some 0
    else
      some 1
def f11_requirePass (p1 : Int32) (σ : Sig) : Option (Xe) :=
  bnd (f7_has 8 p1 σ) fun v1 =>
  if v1 = 0 then
    some (2, 0, σ)
  else
    some (0, 0, σ)
def f7_finalDay (n : Nat) (p1 : Int32) (σ : Sig) : Option (Int32) :=
  ald (σ (n + 1) 16) 30 p1 fun v1 =>
  ald (σ (n + 1) 17) 30 p1 fun v2 =>
  nm (v1 + v2) fun v3 =>
  nm (v3 - 1) fun v4 =>
  some v4
def f4_canChangePass (n : Nat) (p1 : Int32) (σ : Sig) : Option (Int32) :=
  ald (σ (n + 1) 21) 30 p1 fun v1 =>
  if v1 = 0 then
    bnd (f7_finalDay n p1 σ) fun v2 =>
    bnd (f3_today n σ) fun v3 =>
    if v2 < v3 then
      some 0
    else
      some 1
  else
    some 0
def f4_payNewPrice (n : Nat) (p1 : Int32) (σ : Sig) : Option (Int32 × Sig) :=
  ald (σ (n + 1) 15) 30 p1 fun v1 =>
  ald (σ (n + 1) 17) 30 p1 fun v2 =>
  ald (σ (n + 1) 18) 30 p1 fun v3 =>
  bnd (f10_priceOfPass n v1 v2 v3 σ) fun v4 =>
  ald (σ (n + 1) 19) 30 p1 fun v5 =>
  nm (v4 - v5) fun v6 =>
  nm (if (0 : Int32) < v6 then v6 else 0) fun v7 =>
  ald (σ (n + 1) 19) 30 p1 fun v8 =>
  nm (v8 + v7) fun v9 =>
  ast σ (n + 1) 19 30 p1 v9 fun s10 =>
  nm (s10 (n + 1) 6 0) fun v11 =>
  nm (v11 + v7) fun v12 =>
  nm (up s10 (n + 1) 6 0 v12) fun s13 =>
  some (v7, s13)
def f11_extend_b47 (x1 : Int32) (x2 : Int32) (t0 : Int32) (σ : Sig) : Option (Xe) :=
  bnx (f11_requireState t0 σ) fun v1 s2 =>
  bnd (f5_remember 8 s2) fun s3 =>
  ald (s3 (8 + 1) 17) 30 x1 fun v4 =>
  nm (v4 + x2) fun v5 =>
  ast s3 (8 + 1) 17 30 x1 v5 fun s6 =>
  bns (f4_payNewPrice 8 x1 s6) fun v7 s8 =>
  some (0, v7, s8)
def f11_extend (p1 : Int32) (p2 : Int32) (σ : Sig) : Option (Xe) :=
  bnx (f11_requirePass p1 σ) fun v9 s10 =>
  bnx (f11_requireRange p2 1 13 s10) fun v11 s12 =>
  bnd (f4_canChangePass 8 p1 s12) fun v13 =>
  bnx (f11_requireState v13 s12) fun v14 s15 =>
  ald (s15 (8 + 1) 17) 30 p1 fun v16 =>
  nm (v16 + p2) fun v17 =>
  if (14 : Int32) < v17 then
    f11_extend_b47 p1 p2 0 s15
  else
    f11_extend_b47 p1 p2 1 s15
def f11_addScent_b41 (x1 : Int32) (x2 : Int32) (t0 : Int32) (σ : Sig) : Option (Xe) :=
  bnx (f11_requireState t0 σ) fun v1 s2 =>
  bnd (f5_remember 8 s2) fun s3 =>
  ald (s3 (8 + 1) 15) 30 x1 fun v4 =>
  nm ((1 : Int32) <<< (x2 &&& 31)) fun v5 =>
  nm (v4 ||| v5) fun v6 =>
  ast s3 (8 + 1) 15 30 x1 v6 fun s7 =>
  bns (f4_payNewPrice 8 x1 s7) fun v8 s9 =>
  some (0, v8, s9)
def f11_addScent (p1 : Int32) (p2 : Int32) (σ : Sig) : Option (Xe) :=
  bnx (f11_requirePass p1 σ) fun v10 s11 =>
  bnx (f11_requireScent p2 s11) fun v12 s13 =>
  bnd (f4_canChangePass 8 p1 s13) fun v14 =>
  bnx (f11_requireState v14 s13) fun v15 s16 =>
  bnd (f7_hasScent 8 p1 p2 s16) fun v17 =>
  if v17 = 0 then
    f11_addScent_b41 p1 p2 1 s16
  else
    f11_addScent_b41 p1 p2 0 s16
def f11_reportLost (p1 : Int32) (σ : Sig) : Option (Xe) :=
  bnx (f11_requirePass p1 σ) fun v1 s2 =>
  bnd (f7_hasCard 8 p1 s2) fun v3 =>
  bnx (f11_requireState v3 s2) fun v4 s5 =>
  bnd (f5_remember 8 s5) fun s6 =>
  bns (f4_blockCardOf 8 p1 s6) fun v7 s8 =>
  some (0, v7, s8)
def f11_replaceCard (p1 : Int32) (σ : Sig) : Option (Xe) :=
  bnx (f11_requirePass p1 σ) fun v1 s2 =>
  bnd (f4_canReplaceCard 8 p1 s2) fun v3 =>
  bnx (f11_requireState v3 s2) fun v4 s5 =>
  bnd (f5_remember 8 s5) fun s6 =>
  bns (f4_issueNewCard 8 p1 s6) fun v7 s8 =>
  some (0, v7, s8)
def f11_refundPass_b25 (x1 : Int32) (t0 : Int32) (σ : Sig) : Option (Xe) :=
  bnx (f11_requireState t0 σ) fun v1 s2 =>
  bnd (f5_remember 8 s2) fun s3 =>
  bns (f4_takeBackPass 8 x1 s3) fun v4 s5 =>
  some (0, v4, s5)
def f11_refundPass (p1 : Int32) (σ : Sig) : Option (Xe) :=
  bnx (f11_requirePass p1 σ) fun v6 s7 =>
  ald (s7 (8 + 1) 21) 30 p1 fun v8 =>
  if v8 = 0 then
    f11_refundPass_b25 p1 1 s7
  else
    f11_refundPass_b25 p1 0 s7
def f11_requireCard (p1 : Int32) (σ : Sig) : Option (Xe) :=
  bnd (f2_has 8 p1 σ) fun v1 =>
  if v1 = 0 then
    some (2, 0, σ)
  else
    some (0, 0, σ)
def f11_requireBed (p1 : Int32) (σ : Sig) : Option (Xe) :=
  bnd (f0_has 8 p1 σ) fun v1 =>
  if v1 = 0 then
    some (2, 0, σ)
  else
    some (0, 0, σ)
def f11_visit (p1 : Int32) (p2 : Int32) (σ : Sig) : Option (Xe) :=
  bnx (f11_requireCard p1 σ) fun v1 s2 =>
  bnx (f11_requireBed p2 s2) fun v3 s4 =>
  bnd (f5_remember 8 s4) fun s5 =>
  bns (f4_showCard 8 p1 p2 s5) fun v6 s7 =>
  some (0, v6, s7)
def f11_pluck (p1 : Int32) (p2 : Int32) (σ : Sig) : Option (Xe) :=
  bnx (f11_requireCard p1 σ) fun v1 s2 =>
  bnx (f11_requireRange p2 1 9 s2) fun v3 s4 =>
  bnd (f4_canPluck 8 p1 p2 s4) fun v5 =>
  bnx (f11_requireState v5 s4) fun v6 s7 =>
  bnd (f5_remember 8 s7) fun s8 =>
  bns (f4_pluckBlooms 8 p1 p2 s8) fun v9 s10 =>
  some (0, v9, s10)
def f11_payFines_b34 (x1 : Int32) (x2 : Int32) (t0 : Int32) (σ : Sig) : Option (Xe) :=
  bnx (f11_requireState t0 σ) fun v1 s2 =>
  bnd (f5_remember 8 s2) fun s3 =>
  bnd (f4_payFinesOf 8 x1 x2 s3) fun s4 =>
  ald (s4 (8 + 1) 26) 30 x1 fun v5 =>
  some (0, v5, s4)
def f11_payFines (p1 : Int32) (p2 : Int32) (σ : Sig) : Option (Xe) :=
  bnx (f11_requirePass p1 σ) fun v6 s7 =>
  bnx (f11_requireRange p2 1 9999 s7) fun v8 s9 =>
  ald (s9 (8 + 1) 26) 30 p1 fun v10 =>
  if v10 < p2 then
    f11_payFines_b34 p1 p2 0 s9
  else
    f11_payFines_b34 p1 p2 1 s9
def f11_pass (p1 : Int32) (σ : Sig) : Option (Xe) :=
  bnx (f11_requireRange p1 1 500 σ) fun v1 s2 =>
  bnd (f3_canGoOn 8 p1 s2) fun v3 =>
  bnx (f11_requireState v3 s2) fun v4 s5 =>
  bnd (f5_remember 8 s5) fun s6 =>
  bnd (f4_letTicksPass 8 p1 s6) fun s7 =>
  nm (s7 (8 + 1) 1 0) fun v8 =>
  some (0, v8, s7)
def f5_takeBack (n1 : Nat) (σ : Sig) : Option (Sig) :=
  nm (σ 0 1 2) fun v1 =>
  nm (v1 + 8) fun v2 =>
  nm (v2 - 1) fun v3 =>
  rmd v3 8 fun v4 =>
  nm (up σ 0 1 2 v4) fun s5 =>
  nm (s5 0 1 2) fun v6 =>
  alr 8 v6 fun j7 =>
  bnd (f4_copyFrom n1 j7 s5) fun s8 =>
  nm (s8 0 1 1) fun v9 =>
  nm (v9 - 1) fun v10 =>
  nm (up s8 0 1 1 v10) fun s11 =>
  some s11
def f11_undo (σ : Sig) : Option (Int32 × Sig) :=
  nm (σ 0 1 1) fun v1 =>
  if v1 = 0 then
    some ((-1), σ)
  else
    bnd (f5_takeBack 8 σ) fun s2 =>
    nm (s2 0 1 1) fun v3 =>
    some (v3, s2)
def f11_time (σ : Sig) : Option (Int32) :=
  nm (σ (8 + 1) 1 0) fun v1 =>
  some v1
def f11_day (σ : Sig) : Option (Int32) :=
  bnd (f3_today 8 σ) fun v1 =>
  some v1
def f11_isOpen (σ : Sig) : Option (Int32) :=
  bnd (f3_tickOfDay 8 σ) fun v1 =>
  bnd (f3_isOpenIn 8 v1 σ) fun v2 =>
  gz v2 (some v2)
def f3_waitForOpening_b2 (n : Nat) : Nat → Int32 → Sig → Option Int32
  | 0, _, _ => none
  | fu + 1, x1, σ =>
    if (96 : Int32) ≤ x1 then
      some (-1)
    else
      nm (σ (n + 1) 1 0) fun v1 =>
      nm (v1 + x1) fun v2 =>
      rmd v2 96 fun v3 =>
      bnd (f3_isOpenIn n v3 σ) fun v4 =>
      if v4 = 0 then
        nm (x1 + 1) fun v5 =>
        f3_waitForOpening_b2 n fu v5 σ
      else
        some x1
def f3_waitForOpening (n : Nat) (σ : Sig) : Option (Int32) :=
  f3_waitForOpening_b2 n FU 0 σ
def f11_ticksUntilOpen (σ : Sig) : Option (Int32) :=
  bnd (f3_waitForOpening 8 σ) fun v1 =>
  some v1
def f11_bedCount (σ : Sig) : Option (Int32) :=
  nm (σ (8 + 1) 3 0) fun v1 =>
  some v1
def f11_isInSeason (p1 : Int32) (σ : Sig) : Option (Xe) :=
  bnx (f11_requireBed p1 σ) fun v1 s2 =>
  bnd (f3_today 8 s2) fun v3 =>
  bnd (f0_hasSeasonOn 8 p1 v3 s2) fun v4 =>
  gz v4 (some (0, v4, s2))
def f11_blooms (p1 : Int32) (σ : Sig) : Option (Xe) :=
  bnx (f11_requireBed p1 σ) fun v1 s2 =>
  ald (s2 (8 + 1) 12) 8 p1 fun v3 =>
  some (0, v3, s2)
def f11_placesLeft (p1 : Int32) (σ : Sig) : Option (Xe) :=
  bnx (f11_requireBed p1 σ) fun v1 s2 =>
  bnd (f0_freePlaces 8 p1 s2) fun v3 =>
  some (0, v3, s2)
def f11_visitsTo (p1 : Int32) (σ : Sig) : Option (Xe) :=
  bnx (f11_requireBed p1 σ) fun v1 s2 =>
  ald (s2 (8 + 1) 13) 8 p1 fun v3 =>
  some (0, v3, s2)
def f11_passCount (σ : Sig) : Option (Int32) :=
  nm (σ (8 + 1) 4 0) fun v1 =>
  some v1
def f11_firstDay (p1 : Int32) (σ : Sig) : Option (Xe) :=
  bnx (f11_requirePass p1 σ) fun v1 s2 =>
  ald (s2 (8 + 1) 16) 30 p1 fun v3 =>
  some (0, v3, s2)
def f11_lastDay (p1 : Int32) (σ : Sig) : Option (Xe) :=
  bnx (f11_requirePass p1 σ) fun v1 s2 =>
  bnd (f7_finalDay 8 p1 s2) fun v3 =>
  some (0, v3, s2)
def f11_priceOf (p1 : Int32) (σ : Sig) : Option (Xe) :=
  bnx (f11_requirePass p1 σ) fun v1 s2 =>
  ald (s2 (8 + 1) 19) 30 p1 fun v3 =>
  some (0, v3, s2)
def f11_cardOf (p1 : Int32) (σ : Sig) : Option (Xe) :=
  bnx (f11_requirePass p1 σ) fun v1 s2 =>
  ald (s2 (8 + 1) 20) 30 p1 fun v3 =>
  some (0, v3, s2)
def f11_isReturned (p1 : Int32) (σ : Sig) : Option (Xe) :=
  bnx (f11_requirePass p1 σ) fun v1 s2 =>
  ald (s2 (8 + 1) 21) 30 p1 fun v3 =>
  gz v3 (some (0, v3, s2))
def f7_countUsedDays (n : Nat) (p1 : Int32) (σ : Sig) : Option (Int32) :=
  ald (σ (n + 1) 22) 30 p1 fun v1 =>
  nm (bitc v1) fun v2 =>
  some v2
def f11_usedDays (p1 : Int32) (σ : Sig) : Option (Xe) :=
  bnx (f11_requirePass p1 σ) fun v1 s2 =>
  bnd (f7_countUsedDays 8 p1 s2) fun v3 =>
  some (0, v3, s2)
def f11_visitsWith (p1 : Int32) (σ : Sig) : Option (Xe) :=
  bnx (f11_requirePass p1 σ) fun v1 s2 =>
  ald (s2 (8 + 1) 23) 30 p1 fun v3 =>
  some (0, v3, s2)
def f11_refundOf (p1 : Int32) (σ : Sig) : Option (Xe) :=
  bnx (f11_requirePass p1 σ) fun v1 s2 =>
  bnd (f4_refundNow 8 p1 s2) fun v3 =>
  some (0, v3, s2)
def f11_owed (p1 : Int32) (σ : Sig) : Option (Xe) :=
  bnx (f11_requirePass p1 σ) fun v1 s2 =>
  ald (s2 (8 + 1) 26) 30 p1 fun v3 =>
  some (0, v3, s2)
def f11_ticksUntilReady (p1 : Int32) (σ : Sig) : Option (Xe) :=
  bnx (f11_requirePass p1 σ) fun v1 s2 =>
  bnd (f4_waitForNextVisit 8 p1 s2) fun v3 =>
  some (0, v3, s2)
def f11_cardCount (σ : Sig) : Option (Int32) :=
  nm (σ (8 + 1) 5 0) fun v1 =>
  some v1
def f11_passOf (p1 : Int32) (σ : Sig) : Option (Xe) :=
  bnx (f11_requireCard p1 σ) fun v1 s2 =>
  ald (s2 (8 + 1) 27) 50 p1 fun v3 =>
  some (0, v3, s2)
def f11_isBlocked (p1 : Int32) (σ : Sig) : Option (Xe) :=
  bnx (f11_requireCard p1 σ) fun v1 s2 =>
  ald (s2 (8 + 1) 28) 50 p1 fun v3 =>
  gz v3 (some (0, v3, s2))
def f11_whyRefused (p1 : Int32) (p2 : Int32) (σ : Sig) : Option (Xe) :=
  bnx (f11_requireCard p1 σ) fun v1 s2 =>
  bnx (f11_requireBed p2 s2) fun v3 s4 =>
  bnd (f4_reasonOfRefusal 8 p1 p2 s4) fun v5 =>
  some (0, v5, s4)
def f11_takings (σ : Sig) : Option (Int32) :=
  nm (σ (8 + 1) 6 0) fun v1 =>
  nm (σ (8 + 1) 6 1) fun v2 =>
  nm (v1 - v2) fun v3 =>
  some v3
def f11_refunds (σ : Sig) : Option (Int32) :=
  nm (σ (8 + 1) 6 1) fun v1 =>
  some v1
def f11_finesPaid (σ : Sig) : Option (Int32) :=
  nm (σ (8 + 1) 6 3) fun v1 =>
  some v1
def f11_plucked (σ : Sig) : Option (Int32) :=
  nm (σ (8 + 1) 6 4) fun v1 =>
  some v1
def f11_alarms (σ : Sig) : Option (Int32) :=
  nm (σ (8 + 1) 6 5) fun v1 =>
  some v1
def f2_isOpenCardOf (n : Nat) (p1 : Int32) (p2 : Int32) (σ : Sig) : Option (Int32) :=
  bnd (f2_has n p1 σ) fun v1 =>
  if v1 = 0 then
    some 0
  else
    ald (σ (n + 1) 28) 50 p1 fun v2 =>
    if v2 = 0 then
      ald (σ (n + 1) 27) 50 p1 fun v3 =>
      if v3 = p2 then
        some 1
      else
        some 0
    else
      some 0
def f4_countWrongPasses_b98 (n : Nat) (rc : Int32 → Int32 → Sig → Option (Int32)) (x1 : Int32) (x2 : Int32) (σ : Sig) : Option (Int32) :=
  nm (x2 + 1) fun v1 =>
  rc x1 v1 σ
def f4_countWrongPasses_b72 (n : Nat) (rc : Int32 → Int32 → Sig → Option (Int32)) (x1 : Int32) (x2 : Int32) (σ : Sig) : Option (Int32) :=
  bnd (f7_hasCard n x2 σ) fun v2 =>
  if v2 = 0 then
    f4_countWrongPasses_b98 n rc x1 x2 σ
  else
    ald (σ (n + 1) 21) 30 x2 fun v3 =>
    if v3 = 0 then
      f4_countWrongPasses_b98 n rc x1 x2 σ
    else
      nm (x1 + 1) fun v4 =>
      f4_countWrongPasses_b98 n rc v4 x2 σ
def f4_countWrongPasses_b38 (n : Nat) (rc : Int32 → Int32 → Sig → Option (Int32)) (x1 : Int32) (x2 : Int32) (σ : Sig) : Option (Int32) :=
  bnd (f7_hasCard n x2 σ) fun v5 =>
  if v5 = 0 then
    f4_countWrongPasses_b72 n rc x1 x2 σ
  else
    ald (σ (n + 1) 20) 30 x2 fun v6 =>
    bnd (f2_isOpenCardOf n v6 x2 σ) fun v7 =>
    if v7 = 0 then
      nm (x1 + 1) fun v8 =>
      f4_countWrongPasses_b72 n rc v8 x2 σ
    else
      f4_countWrongPasses_b72 n rc x1 x2 σ
def f4_countWrongPasses_b4 (n : Nat) : Nat → Int32 → Int32 → Sig → Option Int32
  | 0, _, _, _ => none
  | fu + 1, x1, x2, σ =>
    nm (σ (n + 1) 4 0) fun v9 =>
    if v9 ≤ x2 then
      some x1
    else
      bnd (f7_countUsedDays n x2 σ) fun v10 =>
      ald (σ (n + 1) 17) 30 x2 fun v11 =>
      if v10 ≤ v11 then
        f4_countWrongPasses_b38 n (f4_countWrongPasses_b4 n fu) x1 x2 σ
      else
        nm (x1 + 1) fun v12 =>
        f4_countWrongPasses_b38 n (f4_countWrongPasses_b4 n fu) v12 x2 σ
def f4_countWrongPasses (n : Nat) (σ : Sig) : Option (Int32) :=
  f4_countWrongPasses_b4 n FU 0 0 σ
def f0_countWrong_b43 (n : Nat) (rc : Int32 → Int32 → Sig → Option (Int32)) (x1 : Int32) (x2 : Int32) (σ : Sig) : Option (Int32) :=
  nm (x2 + 1) fun v1 =>
  rc x1 v1 σ
def f0_countWrong_b40 (n : Nat) (rc : Int32 → Int32 → Sig → Option (Int32)) (x1 : Int32) (x2 : Int32) (σ : Sig) : Option (Int32) :=
  nm (x1 + 1) fun v2 =>
  f0_countWrong_b43 n rc v2 x2 σ
def f0_countWrong_b4 (n : Nat) : Nat → Int32 → Int32 → Sig → Option Int32
  | 0, _, _, _ => none
  | fu + 1, x1, x2, σ =>
    nm (σ (n + 1) 3 0) fun v3 =>
    if v3 ≤ x2 then
      some x1
    else
      bnd (f0_freePlaces n x2 σ) fun v4 =>
      if v4 < 0 then
        f0_countWrong_b40 n (f0_countWrong_b4 n fu) x1 x2 σ
      else
        ald (σ (n + 1) 12) 8 x2 fun v5 =>
        if v5 < 0 then
          f0_countWrong_b40 n (f0_countWrong_b4 n fu) x1 x2 σ
        else
          ald (σ (n + 1) 12) 8 x2 fun v6 =>
          if v6 ≤ 50 then
            f0_countWrong_b43 n (f0_countWrong_b4 n fu) x1 x2 σ
          else
            f0_countWrong_b40 n (f0_countWrong_b4 n fu) x1 x2 σ
def f0_countWrong (n : Nat) (σ : Sig) : Option (Int32) :=
  f0_countWrong_b4 n FU 0 0 σ
def f0_sumOfVisits_b4 (n : Nat) : Nat → Int32 → Int32 → Sig → Option Int32
  | 0, _, _, _ => none
  | fu + 1, x1, x2, σ =>
    nm (σ (n + 1) 3 0) fun v1 =>
    if v1 ≤ x2 then
      some x1
    else
      ald (σ (n + 1) 13) 8 x2 fun v2 =>
      nm (x1 + v2) fun v3 =>
      nm (x2 + 1) fun v4 =>
      f0_sumOfVisits_b4 n fu v3 v4 σ
def f0_sumOfVisits (n : Nat) (σ : Sig) : Option (Int32) :=
  f0_sumOfVisits_b4 n FU 0 0 σ
def f7_sumOfVisits_b4 (n : Nat) : Nat → Int32 → Int32 → Sig → Option Int32
  | 0, _, _, _ => none
  | fu + 1, x1, x2, σ =>
    nm (σ (n + 1) 4 0) fun v1 =>
    if v1 ≤ x2 then
      some x1
    else
      ald (σ (n + 1) 23) 30 x2 fun v2 =>
      nm (x1 + v2) fun v3 =>
      nm (x2 + 1) fun v4 =>
      f7_sumOfVisits_b4 n fu v3 v4 σ
def f7_sumOfVisits (n : Nat) (σ : Sig) : Option (Int32) :=
  f7_sumOfVisits_b4 n FU 0 0 σ
def f7_sumOfOwed_b4 (n : Nat) : Nat → Int32 → Int32 → Sig → Option Int32
  | 0, _, _, _ => none
  | fu + 1, x1, x2, σ =>
    nm (σ (n + 1) 4 0) fun v1 =>
    if v1 ≤ x2 then
      some x1
    else
      ald (σ (n + 1) 26) 30 x2 fun v2 =>
      nm (x1 + v2) fun v3 =>
      nm (x2 + 1) fun v4 =>
      f7_sumOfOwed_b4 n fu v3 v4 σ
def f7_sumOfOwed (n : Nat) (σ : Sig) : Option (Int32) :=
  f7_sumOfOwed_b4 n FU 0 0 σ
def f4_countWrongSums_b22 (n : Nat) (t0 : Int32) (σ : Sig) : Option (Int32) :=
  nm (σ (n + 1) 6 2) fun v1 =>
  nm (σ (n + 1) 6 3) fun v2 =>
  bnd (f7_sumOfOwed n σ) fun v3 =>
  nm (v2 + v3) fun v4 =>
  if v1 = v4 then
    some t0
  else
    nm (t0 + 1) fun v5 =>
    some v5
def f4_countWrongSums (n : Nat) (σ : Sig) : Option (Int32) :=
  bnd (f0_sumOfVisits n σ) fun v6 =>
  bnd (f7_sumOfVisits n σ) fun v7 =>
  if v6 = v7 then
    f4_countWrongSums_b22 n 0 σ
  else
    f4_countWrongSums_b22 n 1 σ
def f11_violations (σ : Sig) : Option (Int32) :=
  bnd (f4_countWrongPasses 8 σ) fun v1 =>
  bnd (f0_countWrong 8 σ) fun v2 =>
  nm (v1 + v2) fun v3 =>
  bnd (f4_countWrongSums 8 σ) fun v4 =>
  nm (v3 + v4) fun v5 =>
  some v5
def f6_fill_b16 (k1 : Nat) : Nat → Int32 → Sig → Option Sig
  | 0, _, _ => none
  | fu + 1, x2, σ =>
    nm (σ 0 4 1) fun v1 =>
    if v1 ≤ x2 then
      some σ
    else
      ald (strA k1) (strB k1).length x2 fun v2 =>
      nm ((v2).toInt8.toInt32) fun v3 =>
      ast σ 0 5 500 x2 (vp_nar .byte v3) fun s4 =>
      nm (x2 + 1) fun v5 =>
      f6_fill_b16 k1 fu v5 s4
def f6_fill (k1 : Nat) (σ : Sig) : Option (Sig) :=
  nm (Int32.ofNat (strB k1).length) fun v6 =>
  nm (if v6 < 500 then v6 else 500) fun v7 =>
  nm (up σ 0 4 1 v7) fun s8 =>
  f6_fill_b16 k1 FU 0 s8
