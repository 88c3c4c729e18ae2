/-! printed: the law's loop -/
theorem dL_law_0 : decode cL_law 0 = .ok (.new 8, 3) := by decide +kernel
theorem dL_law_3 : decode cL_law 3 = .ok (.dup, 1) := by decide +kernel
theorem dL_law_4 : decode cL_law 4 = .ok (.invokespecial 146, 3) := by decide +kernel
theorem dL_law_7 : decode cL_law 7 = .ok (.astore_n 1, 1) := by decide +kernel
theorem dL_law_8 : decode cL_law 8 = .ok (.new 147, 3) := by decide +kernel
theorem dL_law_11 : decode cL_law 11 = .ok (.dup, 1) := by decide +kernel
theorem dL_law_12 : decode cL_law 12 = .ok (.invokespecial 149, 3) := by decide +kernel
theorem dL_law_15 : decode cL_law 15 = .ok (.astore_n 2, 1) := by decide +kernel
theorem dL_law_16 : decode cL_law 16 = .ok (.iconst 1, 1) := by decide +kernel
theorem dL_law_17 : decode cL_law 17 = .ok (.newarray .long, 2) := by decide +kernel
theorem dL_law_19 : decode cL_law 19 = .ok (.astore_n 3, 1) := by decide +kernel
theorem dL_law_20 : decode cL_law 20 = .ok (.iconst 0, 1) := by decide +kernel
theorem dL_law_21 : decode cL_law 21 = .ok (.istore 4, 2) := by decide +kernel
theorem dL_law_23 : decode cL_law 23 = .ok (.iload 4, 2) := by decide +kernel
theorem dL_law_25 : decode cL_law 25 = .ok (.aload_n 0, 1) := by decide +kernel
theorem dL_law_26 : decode cL_law 26 = .ok (.arraylength, 1) := by decide +kernel
theorem dL_law_27 : decode cL_law 27 = .ok (.bipush 6, 2) := by decide +kernel
theorem dL_law_29 : decode cL_law 29 = .ok (.isub, 1) := by decide +kernel
theorem dL_law_30 : decode cL_law 30 = .ok (.if_icmp .gt 3238, 3) := by decide +kernel
theorem dL_law_33 : decode cL_law 33 = .ok (.aload_n 0, 1) := by decide +kernel
theorem dL_law_34 : decode cL_law 34 = .ok (.iload 4, 2) := by decide +kernel
theorem dL_law_36 : decode cL_law 36 = .ok (.iaload, 1) := by decide +kernel
theorem dL_law_37 : decode cL_law 37 = .ok (.bipush 63, 2) := by decide +kernel
theorem dL_law_39 : decode cL_law 39 = .ok (.iand, 1) := by decide +kernel
theorem dL_law_3262 : decode cL_law 3262 = .ok (.iinc 4 6, 3) := by decide +kernel
theorem dL_law_3265 : decode cL_law 3265 = .ok (.goto (-3242), 3) := by decide +kernel
theorem dL_law_3268 : decode cL_law 3268 = .ok (.iconst 1, 1) := by decide +kernel
theorem dL_law_3269 : decode cL_law 3269 = .ok (.ireturn, 1) := by decide +kernel
section LWC
variable {p : Program} {l : Launch} {e : Env} {s : State} {m : MethodId} {below : List Frame} {meth : Method} {c : Code} {H : Heap} {locs : List Loc} {cells slots : Nat} {Q : State → Prop}
variable {b L o : Nat} {xs : Nat → Int32} {ls : Array Slot} {Γ : Wc} {ax am : Nat → Nat → Nat} {σ τ : Sig} {f : Nat → Int64}
theorem lc_all (C : LC l Γ p s m b L xs c) (D : LD s ax am o) (I : LI Γ s ax am o σ τ f H locs) (hR : Rl σ τ) {j : Nat} (hj : j + 6 ≤ L ∧ L ≤ 3072) (hl : lv_has ls 9 (LV b ax am o j)) (hcs : cells + 5 ≤ 601024 ∧ slots + 30 ≤ 7293034) {x : Int32} (hx : 0 ≤ x.toInt ∧ x.toInt < 64) (K : LK p l e s m b below meth c Γ ax am o Q cells slots j) : W p l e room_1 s m #[Value.ref b] below meth c H locs cells slots Q (F0 m 40 ls [.int x]) := by
  rcases (show x.toInt < 32 ∨ 32 ≤ x.toInt by omega) with h32 | h32
  · rcases (show x.toInt < 16 ∨ 16 ≤ x.toInt by omega) with h16 | h16
    · rcases (show x.toInt < 8 ∨ 8 ≤ x.toInt by omega) with h8 | h8
      · rcases (show x.toInt < 4 ∨ 4 ≤ x.toInt by omega) with h4 | h4
        · rcases (show x.toInt < 2 ∨ 2 ≤ x.toInt by omega) with h2 | h2
          · rcases (show x.toInt < 1 ∨ 1 ≤ x.toInt by omega) with h1 | h1
            · exact lc_0 C D I hR hj hl hcs (by omega) K
            · exact lc_1 C D I hR hj hl hcs (by omega) K
          · rcases (show x.toInt < 3 ∨ 3 ≤ x.toInt by omega) with h3 | h3
            · exact lc_2 C D I hR hj hl hcs (by omega) K
            · exact lc_3 C D I hR hj hl hcs (by omega) K
        · rcases (show x.toInt < 6 ∨ 6 ≤ x.toInt by omega) with h6 | h6
          · rcases (show x.toInt < 5 ∨ 5 ≤ x.toInt by omega) with h5 | h5
            · exact lc_4 C D I hR hj hl hcs (by omega) K
            · exact lc_5 C D I hR hj hl hcs (by omega) K
          · rcases (show x.toInt < 7 ∨ 7 ≤ x.toInt by omega) with h7 | h7
            · exact lc_6 C D I hR hj hl hcs (by omega) K
            · exact lc_7 C D I hR hj hl hcs (by omega) K
      · rcases (show x.toInt < 12 ∨ 12 ≤ x.toInt by omega) with h12 | h12
        · rcases (show x.toInt < 10 ∨ 10 ≤ x.toInt by omega) with h10 | h10
          · rcases (show x.toInt < 9 ∨ 9 ≤ x.toInt by omega) with h9 | h9
            · exact lc_8 C D I hR hj hl hcs (by omega) K
            · exact lc_9 C D I hR hj hl hcs (by omega) K
          · rcases (show x.toInt < 11 ∨ 11 ≤ x.toInt by omega) with h11 | h11
            · exact lc_10 C D I hR hj hl hcs (by omega) K
            · exact lc_11 C D I hR hj hl hcs (by omega) K
        · rcases (show x.toInt < 14 ∨ 14 ≤ x.toInt by omega) with h14 | h14
          · rcases (show x.toInt < 13 ∨ 13 ≤ x.toInt by omega) with h13 | h13
            · exact lc_12 C D I hR hj hl hcs (by omega) K
            · exact lc_13 C D I hR hj hl hcs (by omega) K
          · rcases (show x.toInt < 15 ∨ 15 ≤ x.toInt by omega) with h15 | h15
            · exact lc_14 C D I hR hj hl hcs (by omega) K
            · exact lc_15 C D I hR hj hl hcs (by omega) K
    · rcases (show x.toInt < 24 ∨ 24 ≤ x.toInt by omega) with h24 | h24
      · rcases (show x.toInt < 20 ∨ 20 ≤ x.toInt by omega) with h20 | h20
        · rcases (show x.toInt < 18 ∨ 18 ≤ x.toInt by omega) with h18 | h18
          · rcases (show x.toInt < 17 ∨ 17 ≤ x.toInt by omega) with h17 | h17
            · exact lc_16 C D I hR hj hl hcs (by omega) K
            · exact lc_17 C D I hR hj hl hcs (by omega) K
          · rcases (show x.toInt < 19 ∨ 19 ≤ x.toInt by omega) with h19 | h19
            · exact lc_18 C D I hR hj hl hcs (by omega) K
            · exact lc_19 C D I hR hj hl hcs (by omega) K
        · rcases (show x.toInt < 22 ∨ 22 ≤ x.toInt by omega) with h22 | h22
          · rcases (show x.toInt < 21 ∨ 21 ≤ x.toInt by omega) with h21 | h21
            · exact lc_20 C D I hR hj hl hcs (by omega) K
            · exact lc_21 C D I hR hj hl hcs (by omega) K
          · rcases (show x.toInt < 23 ∨ 23 ≤ x.toInt by omega) with h23 | h23
            · exact lc_22 C D I hR hj hl hcs (by omega) K
            · exact lc_23 C D I hR hj hl hcs (by omega) K
      · rcases (show x.toInt < 28 ∨ 28 ≤ x.toInt by omega) with h28 | h28
        · rcases (show x.toInt < 26 ∨ 26 ≤ x.toInt by omega) with h26 | h26
          · rcases (show x.toInt < 25 ∨ 25 ≤ x.toInt by omega) with h25 | h25
            · exact lc_24 C D I hR hj hl hcs (by omega) K
            · exact lc_25 C D I hR hj hl hcs (by omega) K
          · rcases (show x.toInt < 27 ∨ 27 ≤ x.toInt by omega) with h27 | h27
            · exact lc_26 C D I hR hj hl hcs (by omega) K
            · exact lc_27 C D I hR hj hl hcs (by omega) K
        · rcases (show x.toInt < 30 ∨ 30 ≤ x.toInt by omega) with h30 | h30
          · rcases (show x.toInt < 29 ∨ 29 ≤ x.toInt by omega) with h29 | h29
            · exact lc_28 C D I hR hj hl hcs (by omega) K
            · exact lc_29 C D I hR hj hl hcs (by omega) K
          · rcases (show x.toInt < 31 ∨ 31 ≤ x.toInt by omega) with h31 | h31
            · exact lc_30 C D I hR hj hl hcs (by omega) K
            · exact lc_31 C D I hR hj hl hcs (by omega) K
  · rcases (show x.toInt < 48 ∨ 48 ≤ x.toInt by omega) with h48 | h48
    · rcases (show x.toInt < 40 ∨ 40 ≤ x.toInt by omega) with h40 | h40
      · rcases (show x.toInt < 36 ∨ 36 ≤ x.toInt by omega) with h36 | h36
        · rcases (show x.toInt < 34 ∨ 34 ≤ x.toInt by omega) with h34 | h34
          · rcases (show x.toInt < 33 ∨ 33 ≤ x.toInt by omega) with h33 | h33
            · exact lc_32 C D I hR hj hl hcs (by omega) K
            · exact lc_33 C D I hR hj hl hcs (by omega) K
          · rcases (show x.toInt < 35 ∨ 35 ≤ x.toInt by omega) with h35 | h35
            · exact lc_34 C D I hR hj hl hcs (by omega) K
            · exact lc_35 C D I hR hj hl hcs (by omega) K
        · rcases (show x.toInt < 38 ∨ 38 ≤ x.toInt by omega) with h38 | h38
          · rcases (show x.toInt < 37 ∨ 37 ≤ x.toInt by omega) with h37 | h37
            · exact lc_36 C D I hR hj hl hcs (by omega) K
            · exact lc_37 C D I hR hj hl hcs (by omega) K
          · rcases (show x.toInt < 39 ∨ 39 ≤ x.toInt by omega) with h39 | h39
            · exact lc_38 C D I hR hj hl hcs (by omega) K
            · exact lc_39 C D I hR hj hl hcs (by omega) K
      · rcases (show x.toInt < 44 ∨ 44 ≤ x.toInt by omega) with h44 | h44
        · rcases (show x.toInt < 42 ∨ 42 ≤ x.toInt by omega) with h42 | h42
          · rcases (show x.toInt < 41 ∨ 41 ≤ x.toInt by omega) with h41 | h41
            · exact lc_40 C D I hR hj hl hcs (by omega) K
            · exact lc_41 C D I hR hj hl hcs (by omega) K
          · rcases (show x.toInt < 43 ∨ 43 ≤ x.toInt by omega) with h43 | h43
            · exact lc_42 C D I hR hj hl hcs (by omega) K
            · exact lc_43 C D I hR hj hl hcs (by omega) K
        · rcases (show x.toInt < 46 ∨ 46 ≤ x.toInt by omega) with h46 | h46
          · rcases (show x.toInt < 45 ∨ 45 ≤ x.toInt by omega) with h45 | h45
            · exact lc_44 C D I hR hj hl hcs (by omega) K
            · exact lc_45 C D I hR hj hl hcs (by omega) K
          · rcases (show x.toInt < 47 ∨ 47 ≤ x.toInt by omega) with h47 | h47
            · exact lc_46 C D I hR hj hl hcs (by omega) K
            · exact lc_47 C D I hR hj hl hcs (by omega) K
    · rcases (show x.toInt < 56 ∨ 56 ≤ x.toInt by omega) with h56 | h56
      · rcases (show x.toInt < 52 ∨ 52 ≤ x.toInt by omega) with h52 | h52
        · rcases (show x.toInt < 50 ∨ 50 ≤ x.toInt by omega) with h50 | h50
          · rcases (show x.toInt < 49 ∨ 49 ≤ x.toInt by omega) with h49 | h49
            · exact lc_48 C D I hR hj hl hcs (by omega) K
            · exact lc_49 C D I hR hj hl hcs (by omega) K
          · rcases (show x.toInt < 51 ∨ 51 ≤ x.toInt by omega) with h51 | h51
            · exact lc_50 C D I hR hj hl hcs (by omega) K
            · exact lc_51 C D I hR hj hl hcs (by omega) K
        · rcases (show x.toInt < 54 ∨ 54 ≤ x.toInt by omega) with h54 | h54
          · rcases (show x.toInt < 53 ∨ 53 ≤ x.toInt by omega) with h53 | h53
            · exact lc_52 C D I hR hj hl hcs (by omega) K
            · exact lc_53 C D I hR hj hl hcs (by omega) K
          · rcases (show x.toInt < 55 ∨ 55 ≤ x.toInt by omega) with h55 | h55
            · exact lc_54 C D I hR hj hl hcs (by omega) K
            · exact lc_55 C D I hR hj hl hcs (by omega) K
      · rcases (show x.toInt < 60 ∨ 60 ≤ x.toInt by omega) with h60 | h60
        · rcases (show x.toInt < 58 ∨ 58 ≤ x.toInt by omega) with h58 | h58
          · rcases (show x.toInt < 57 ∨ 57 ≤ x.toInt by omega) with h57 | h57
            · exact lc_56 C D I hR hj hl hcs (by omega) K
            · exact lc_57 C D I hR hj hl hcs (by omega) K
          · rcases (show x.toInt < 59 ∨ 59 ≤ x.toInt by omega) with h59 | h59
            · exact lc_58 C D I hR hj hl hcs (by omega) K
            · exact lc_59 C D I hR hj hl hcs (by omega) K
        · rcases (show x.toInt < 62 ∨ 62 ≤ x.toInt by omega) with h62 | h62
          · rcases (show x.toInt < 61 ∨ 61 ≤ x.toInt by omega) with h61 | h61
            · exact lc_60 C D I hR hj hl hcs (by omega) K
            · exact lc_61 C D I hR hj hl hcs (by omega) K
          · rcases (show x.toInt < 63 ∨ 63 ≤ x.toInt by omega) with h63 | h63
            · exact lc_62 C D I hR hj hl hcs (by omega) K
            · exact lc_63 C D I hR hj hl hcs (by omega) K
theorem msk63 (v : Int32) : 0 ≤ (v &&& 63).toInt ∧ (v &&& 63).toInt < 64 := by
  have q := Jvm.Kit.i32_mask v 63 (k := 6) (by decide) (by decide)
  have q2 : (v &&& 63).toInt = v.toInt % 64 := q
  omega
set_option maxHeartbeats 4000000 in
set_option maxRecDepth 100000 in
theorem law_loop (C : LC l Γ p s m b L xs c) (D : LD s ax am o) (hL : L ≤ 3072) (KE : ∀ (H' : Heap) (locs' : List Loc) (ls' : Array Slot), va_S (fun q => s.heap.size ≤ q) s.heap H' locs' → W p l e room_1 s m #[Value.ref b] below meth c H' locs' 601024 7293034 Q (F0 m 3268 ls' [])) : ∀ (n k : Nat) (σ τ : Sig) (f : Nat → Int64) (H : Heap) (locs : List Loc) (ls : Array Slot), L < 6 * k + n → 6 * k ≤ L → LI Γ s ax am o σ τ f H locs → Rl σ τ → lv_has ls 9 (LV b ax am o (6 * k)) → W p l e room_1 s m #[Value.ref b] below meth c H locs (400 + 5 * k) (14000 + 30 * k) Q (F0 m 23 ls []) := by
  intro n
  induction n with
  | zero => intro k σ τ f H locs ls hn hk I hR hl; omega
  | succ n ih =>
    intro k σ τ f H locs ls hn hk I hR hl
    have ej : (Int32.ofNat (6 * k)).toInt = ((6 * k : Nat) : Int) := oN _ (by omega)
    have eL : (Int32.ofNat L).toInt = (L : Int) := oN _ (by omega)
    have hX := C.2.2.2.2.2.2.2.2.2.1
    have hbl := C.2.2.2.2.2.2.2.2.2.2.1
    refine lv_iload C.1 C.2.1 dL_law_23 (lv_at hl 0 rfl) ?_
    refine lv_aload_n C.1 C.2.1 dL_law_25 rfl (lv_at hl 1 rfl) ?_
    refine va_slen C.1 C.2.1 hX hbl (Nat.not_le.mpr hbl) I.1 dL_law_26 ?_
    refine lv_bipush (v := 6) C.1 C.2.1 dL_law_27 (by decide) ?_
    refine lv_isub C.1 C.2.1 dL_law_29 ?_
    have e6 : (Int32.ofNat L - 6).toInt = (L : Int) - 6 := tv_sub eL rfl (by omega)
    refine lv_icmp_gt (tgt := 3268) C.1 C.2.1 dL_law_30 (by decide) (fun h => ?_) (fun h => ?_)
    · exact W.widen (k := 601024) (n := 7293034) (by omega) (by omega) (KE _ _ _ I.1)
    · rw [Int32.lt_iff_toInt_lt, e6, ej] at h
      have hj : 6 * k + 6 ≤ L := by omega
      have e3 : (Int32.ofNat (6 * k)).toNatClampNeg = 6 * k := by
        show (Int32.ofNat (6 * k)).toInt.toNat = _
        rw [ej]
        exact Int.toNat_natCast _
      refine lv_aload_n C.1 C.2.1 dL_law_33 rfl (lv_at hl 1 rfl) ?_
      refine lv_iload C.1 C.2.1 dL_law_34 (lv_at hl 0 rfl) ?_
      refine va_sld C.1 C.2.1 hX hbl (Nat.not_le.mpr hbl) I.1 ?_ dL_law_36 ?_
      · intro q
        rcases q with q | q
        · rw [Int32.lt_iff_toInt_lt, ej] at q
          have : (0 : Int32).toInt = 0 := rfl
          omega
        · rw [e3] at q
          omega
      refine lv_bipush (v := 63) C.1 C.2.1 dL_law_37 (by decide) ?_
      refine lv_iand C.1 C.2.1 dL_law_39 ?_
      refine lc_all C D I hR ⟨hj, hL⟩ hl ⟨by omega, by omega⟩ (msk63 _) ?_
      intro σ' τ' f' H' locs' ls' I' hR' hl'
      refine lv_iinc (v := Int32.ofNat (6 * (k + 1))) (lv' := LV b ax am o (6 * (k + 1))) C.1 C.2.1 dL_law_3262 hl' (k := 0) rfl (by rw [Nat.mul_succ, Int32.ofNat_add]; rfl) (by decide) rfl (fun ls hl => ?_)
      refine lv_goto (tgt := 23) C.1 C.2.1 dL_law_3265 (by decide) ?_
      rw [show 400 + 5 * k + 5 = 400 + 5 * (k + 1) by omega, show 14000 + 30 * k + 30 = 14000 + 30 * (k + 1) by omega]
      exact ih (k + 1) σ' τ' f' H' locs' ls (by omega) (by omega) I' hR' hl
end LWC
