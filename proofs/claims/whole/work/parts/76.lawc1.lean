/-! printed: the law's cases 8 to 15 -/
section LWC
variable {p : Program} {l : Launch} {e : Env} {s : State} {m : MethodId} {below : List Frame} {meth : Method} {c : Code} {H : Heap} {locs : List Loc} {cells slots : Nat} {Q : State → Prop}
variable {b L o : Nat} {xs : Nat → Int32} {ls : Array Slot} {Γ : Wc} {ax am : Nat → Nat → Nat} {σ τ : Sig} {f : Nat → Int64}
set_option maxHeartbeats 4000000 in
set_option maxRecDepth 100000 in
theorem lc_8 (C : LC l Γ p s m b L xs c) (D : LD s ax am o) (I : LI Γ s ax am o σ τ f H locs) (hR : Rl σ τ) {j : Nat} (hj : j + 6 ≤ L ∧ L ≤ 3072) (hl : lv_has ls 9 (LV b ax am o j)) (hcs : cells + 5 ≤ 601024 ∧ slots + 30 ≤ 7293034) {x : Int32} (hx : x.toInt = 8) (K : LK p l e s m b below meth c Γ ax am o Q cells slots j) : W p l e room_1 s m #[Value.ref b] below meth c H locs cells slots Q (F0 m 40 ls [.int x]) := by
  have hcs5 : cells + 5 ≤ 601024 ∧ slots + 30 ≤ 7293034 := hcs
  refine lv_tableIn (off := 754) (tgt := 794) C.1 C.2.1 dL_law_40 (by rw [hx]; decide) (by rw [hx]; decide) (by rw [hx]; rfl) (by decide) ?_
  obtain ⟨q, r, τ', e1, e2, hR', hc⟩ := lo_sell (xs (j + 1)) (xs (j + 2)) (xs (j + 3)) (xs (j + 4)) hR
  refine lv_aload_n C.1 C.2.1 dL_law_794 rfl (lv_at hl 2 rfl) ?_
  refine l_rd C I 1 (lv_at hl 1 rfl) (lv_at hl 0 rfl) hj (by decide) rfl dL_law_795 dL_law_796 dL_law_798 dL_law_799 dL_law_800 ?_
  refine l_rd C I 2 (lv_at hl 1 rfl) (lv_at hl 0 rfl) hj (by decide) rfl dL_law_801 dL_law_802 dL_law_804 dL_law_805 dL_law_806 ?_
  refine l_rd C I 3 (lv_at hl 1 rfl) (lv_at hl 0 rfl) hj (by decide) rfl dL_law_807 dL_law_808 dL_law_810 dL_law_811 dL_law_812 ?_
  refine l_rd C I 4 (lv_at hl 1 rfl) (lv_at hl 0 rfl) hj (by decide) rfl dL_law_813 dL_law_814 dL_law_816 dL_law_817 dL_law_818 ?_
  refine lv_aload_n C.1 C.2.1 dL_law_819 rfl (lv_at hl 4 rfl) ?_
  refine lw_s C D I (As := [.ref (ax 0 0), .int (xs (j + 1)), .int (xs (j + 2)), .int (xs (j + 3)), .int (xs (j + 4)), .ref o]) (rest := []) (wL_sell l (C.2.2.2.2.2.2.2.2.2.2.2) Γ ax o (xs (j + 1)) (xs (j + 2)) (xs (j + 3)) (xs (j + 4)) σ q e1 (by simpa using hq_of hc)) mz_185 ⟨Nat.le_of_ble_eq_true rfl, Nat.le_of_ble_eq_true rfl⟩ rfl (Nat.le_of_ble_eq_true rfl) hl.1 (by decide) hcs dL_law_820 (fun k f1 H1 locs1 I1 hk => ?_)
  have he := th_eq (by decide) (by decide) hc hk
  refine lv_istore (lv' := (5, .int k) :: LV b ax am o j) C.1 C.2.1 dL_law_823 hl (by decide) rfl (fun ls hl => ?_)
  refine lv_aload_n C.1 C.2.1 dL_law_825 rfl (lv_at hl 4 rfl) ?_
  refine l_rd C I1 1 (lv_at hl 2 rfl) (lv_at hl 1 rfl) hj (by decide) rfl dL_law_826 dL_law_827 dL_law_829 dL_law_830 dL_law_831 ?_
  refine l_rd C I1 2 (lv_at hl 2 rfl) (lv_at hl 1 rfl) hj (by decide) rfl dL_law_832 dL_law_833 dL_law_835 dL_law_836 dL_law_837 ?_
  refine l_rd C I1 3 (lv_at hl 2 rfl) (lv_at hl 1 rfl) hj (by decide) rfl dL_law_838 dL_law_839 dL_law_841 dL_law_842 dL_law_843 ?_
  refine l_rd C I1 4 (lv_at hl 2 rfl) (lv_at hl 1 rfl) hj (by decide) rfl dL_law_844 dL_law_845 dL_law_847 dL_law_848 dL_law_849 ?_
  refine lm_i C D I1 (As := [.int (xs (j + 1)), .int (xs (j + 2)), .int (xs (j + 3)), .int (xs (j + 4))]) (rest := []) (w12_sell l Γ am (AMs am) (xs (j + 1)) (xs (j + 2)) (xs (j + 3)) (xs (j + 4)) τ r τ' e2) mz_187 rfl ⟨Nat.le_of_ble_eq_true rfl, Nat.le_of_ble_eq_true rfl⟩ rfl (Nat.le_of_ble_eq_true rfl) hl.1 hcs5 dL_law_850 (fun H2 locs2 I2 => ?_)
  refine lv_istore (lv' := (6, .int r) :: (5, .int k) :: LV b ax am o j) C.1 C.2.1 dL_law_853 hl (by decide) rfl (fun ls hl => ?_)
  refine lv_aload_n C.1 C.2.1 dL_law_855 rfl (lv_at hl 5 rfl) ?_
  refine lm_i C D I2 (As := []) (rest := []) (w12_thrown l Γ am (AMs am) τ' (τ' 0 0 0) rfl) mz_161 rfl ⟨Nat.le_of_ble_eq_true rfl, Nat.le_of_ble_eq_true rfl⟩ rfl (Nat.le_of_ble_eq_true rfl) hl.1 hcs5 dL_law_856 (fun H3 locs3 I3 => ?_)
  refine lv_iload C.1 C.2.1 dL_law_859 (lv_at hl 1 rfl) ?_
  refine lv_icmp_eq (tgt := 866) C.1 C.2.1 dL_law_861 (by decide) (fun _ => ?_) (fun h => absurd he.1 h)
  refine lv_iload C.1 C.2.1 dL_law_866 (lv_at hl 1 rfl) ?_
  refine lv_if_ne (tgt := 883) C.1 C.2.1 dL_law_868 (by decide) (fun _ => (by refine lv_goto (tgt := 3262) C.1 C.2.1 dL_law_883 (by decide) ?_; exact K _ _ _ _ _ _ I3 hR' (lv_sub hl [2, 3, 4, 5, 6] rfl))) (fun h => ?_)
  obtain ⟨h1, h2, h3⟩ := he.2 h
  refine lv_aload_n C.1 C.2.1 dL_law_871 rfl (lv_at hl 6 rfl) ?_
  refine lv_iconst (v := 0) C.1 C.2.1 dL_law_872 (by decide) ?_
  refine va_lald C.1 C.2.1 C.2.2.2.2.2.1 (vaP1 I3.2.2.2) 0 5 rfl rfl vp01 dL_law_873 ?_
  refine lv_iload C.1 C.2.1 dL_law_874 (lv_at hl 0 rfl) ?_
  refine lv_i2l C.1 C.2.1 dL_law_876 rfl ?_
  refine W.lcmp C.1 C.2.1 dL_law_877 ?_
  refine lv_if_eq (tgt := 883) C.1 C.2.1 dL_law_878 (by decide) (fun _ => (by refine lv_goto (tgt := 3262) C.1 C.2.1 dL_law_883 (by decide) ?_; exact K _ _ _ _ _ _ I3 hR' (lv_sub hl [2, 3, 4, 5, 6] rfl))) (fun h => absurd (lg0 (by rw [h2]; exact h3)) h)
set_option maxHeartbeats 4000000 in
set_option maxRecDepth 100000 in
theorem lc_9 (C : LC l Γ p s m b L xs c) (D : LD s ax am o) (I : LI Γ s ax am o σ τ f H locs) (hR : Rl σ τ) {j : Nat} (hj : j + 6 ≤ L ∧ L ≤ 3072) (hl : lv_has ls 9 (LV b ax am o j)) (hcs : cells + 5 ≤ 601024 ∧ slots + 30 ≤ 7293034) {x : Int32} (hx : x.toInt = 9) (K : LK p l e s m b below meth c Γ ax am o Q cells slots j) : W p l e room_1 s m #[Value.ref b] below meth c H locs cells slots Q (F0 m 40 ls [.int x]) := by
  have hcs5 : cells + 5 ≤ 601024 ∧ slots + 30 ≤ 7293034 := hcs
  refine lv_tableIn (off := 846) (tgt := 886) C.1 C.2.1 dL_law_40 (by rw [hx]; decide) (by rw [hx]; decide) (by rw [hx]; rfl) (by decide) ?_
  obtain ⟨q, r, τ', e1, e2, hR', hc⟩ := lo_extend (xs (j + 1)) (xs (j + 2)) hR
  refine lv_aload_n C.1 C.2.1 dL_law_886 rfl (lv_at hl 2 rfl) ?_
  refine l_rd C I 1 (lv_at hl 1 rfl) (lv_at hl 0 rfl) hj (by decide) rfl dL_law_887 dL_law_888 dL_law_890 dL_law_891 dL_law_892 ?_
  refine l_rd C I 2 (lv_at hl 1 rfl) (lv_at hl 0 rfl) hj (by decide) rfl dL_law_893 dL_law_894 dL_law_896 dL_law_897 dL_law_898 ?_
  refine lv_aload_n C.1 C.2.1 dL_law_899 rfl (lv_at hl 4 rfl) ?_
  refine lw_s C D I (As := [.ref (ax 0 0), .int (xs (j + 1)), .int (xs (j + 2)), .ref o]) (rest := []) (wL_extend l (C.2.2.2.2.2.2.2.2.2.2.2) Γ ax o (xs (j + 1)) (xs (j + 2)) σ q e1 (by simpa using hq_of hc)) mz_188 ⟨Nat.le_of_ble_eq_true rfl, Nat.le_of_ble_eq_true rfl⟩ rfl (Nat.le_of_ble_eq_true rfl) hl.1 (by decide) hcs dL_law_900 (fun k f1 H1 locs1 I1 hk => ?_)
  have he := th_eq (by decide) (by decide) hc hk
  refine lv_istore (lv' := (5, .int k) :: LV b ax am o j) C.1 C.2.1 dL_law_903 hl (by decide) rfl (fun ls hl => ?_)
  refine lv_aload_n C.1 C.2.1 dL_law_905 rfl (lv_at hl 4 rfl) ?_
  refine l_rd C I1 1 (lv_at hl 2 rfl) (lv_at hl 1 rfl) hj (by decide) rfl dL_law_906 dL_law_907 dL_law_909 dL_law_910 dL_law_911 ?_
  refine l_rd C I1 2 (lv_at hl 2 rfl) (lv_at hl 1 rfl) hj (by decide) rfl dL_law_912 dL_law_913 dL_law_915 dL_law_916 dL_law_917 ?_
  refine lm_i C D I1 (As := [.int (xs (j + 1)), .int (xs (j + 2))]) (rest := []) (w12_extend l Γ am (AMs am) (xs (j + 1)) (xs (j + 2)) τ r τ' e2) mz_190 rfl ⟨Nat.le_of_ble_eq_true rfl, Nat.le_of_ble_eq_true rfl⟩ rfl (Nat.le_of_ble_eq_true rfl) hl.1 hcs5 dL_law_918 (fun H2 locs2 I2 => ?_)
  refine lv_istore (lv' := (6, .int r) :: (5, .int k) :: LV b ax am o j) C.1 C.2.1 dL_law_921 hl (by decide) rfl (fun ls hl => ?_)
  refine lv_aload_n C.1 C.2.1 dL_law_923 rfl (lv_at hl 5 rfl) ?_
  refine lm_i C D I2 (As := []) (rest := []) (w12_thrown l Γ am (AMs am) τ' (τ' 0 0 0) rfl) mz_161 rfl ⟨Nat.le_of_ble_eq_true rfl, Nat.le_of_ble_eq_true rfl⟩ rfl (Nat.le_of_ble_eq_true rfl) hl.1 hcs5 dL_law_924 (fun H3 locs3 I3 => ?_)
  refine lv_iload C.1 C.2.1 dL_law_927 (lv_at hl 1 rfl) ?_
  refine lv_icmp_eq (tgt := 934) C.1 C.2.1 dL_law_929 (by decide) (fun _ => ?_) (fun h => absurd he.1 h)
  refine lv_iload C.1 C.2.1 dL_law_934 (lv_at hl 1 rfl) ?_
  refine lv_if_ne (tgt := 951) C.1 C.2.1 dL_law_936 (by decide) (fun _ => (by refine lv_goto (tgt := 3262) C.1 C.2.1 dL_law_951 (by decide) ?_; exact K _ _ _ _ _ _ I3 hR' (lv_sub hl [2, 3, 4, 5, 6] rfl))) (fun h => ?_)
  obtain ⟨h1, h2, h3⟩ := he.2 h
  refine lv_aload_n C.1 C.2.1 dL_law_939 rfl (lv_at hl 6 rfl) ?_
  refine lv_iconst (v := 0) C.1 C.2.1 dL_law_940 (by decide) ?_
  refine va_lald C.1 C.2.1 C.2.2.2.2.2.1 (vaP1 I3.2.2.2) 0 5 rfl rfl vp01 dL_law_941 ?_
  refine lv_iload C.1 C.2.1 dL_law_942 (lv_at hl 0 rfl) ?_
  refine lv_i2l C.1 C.2.1 dL_law_944 rfl ?_
  refine W.lcmp C.1 C.2.1 dL_law_945 ?_
  refine lv_if_eq (tgt := 951) C.1 C.2.1 dL_law_946 (by decide) (fun _ => (by refine lv_goto (tgt := 3262) C.1 C.2.1 dL_law_951 (by decide) ?_; exact K _ _ _ _ _ _ I3 hR' (lv_sub hl [2, 3, 4, 5, 6] rfl))) (fun h => absurd (lg0 (by rw [h2]; exact h3)) h)
set_option maxHeartbeats 4000000 in
set_option maxRecDepth 100000 in
theorem lc_10 (C : LC l Γ p s m b L xs c) (D : LD s ax am o) (I : LI Γ s ax am o σ τ f H locs) (hR : Rl σ τ) {j : Nat} (hj : j + 6 ≤ L ∧ L ≤ 3072) (hl : lv_has ls 9 (LV b ax am o j)) (hcs : cells + 5 ≤ 601024 ∧ slots + 30 ≤ 7293034) {x : Int32} (hx : x.toInt = 10) (K : LK p l e s m b below meth c Γ ax am o Q cells slots j) : W p l e room_1 s m #[Value.ref b] below meth c H locs cells slots Q (F0 m 40 ls [.int x]) := by
  have hcs5 : cells + 5 ≤ 601024 ∧ slots + 30 ≤ 7293034 := hcs
  refine lv_tableIn (off := 914) (tgt := 954) C.1 C.2.1 dL_law_40 (by rw [hx]; decide) (by rw [hx]; decide) (by rw [hx]; rfl) (by decide) ?_
  obtain ⟨q, r, τ', e1, e2, hR', hc⟩ := lo_addScent (xs (j + 1)) (xs (j + 2)) hR
  refine lv_aload_n C.1 C.2.1 dL_law_954 rfl (lv_at hl 2 rfl) ?_
  refine l_rd C I 1 (lv_at hl 1 rfl) (lv_at hl 0 rfl) hj (by decide) rfl dL_law_955 dL_law_956 dL_law_958 dL_law_959 dL_law_960 ?_
  refine l_rd C I 2 (lv_at hl 1 rfl) (lv_at hl 0 rfl) hj (by decide) rfl dL_law_961 dL_law_962 dL_law_964 dL_law_965 dL_law_966 ?_
  refine lv_aload_n C.1 C.2.1 dL_law_967 rfl (lv_at hl 4 rfl) ?_
  refine lw_s C D I (As := [.ref (ax 0 0), .int (xs (j + 1)), .int (xs (j + 2)), .ref o]) (rest := []) (wL_addScent l (C.2.2.2.2.2.2.2.2.2.2.2) Γ ax o (xs (j + 1)) (xs (j + 2)) σ q e1 (by simpa using hq_of hc)) mz_191 ⟨Nat.le_of_ble_eq_true rfl, Nat.le_of_ble_eq_true rfl⟩ rfl (Nat.le_of_ble_eq_true rfl) hl.1 (by decide) hcs dL_law_968 (fun k f1 H1 locs1 I1 hk => ?_)
  have he := th_eq (by decide) (by decide) hc hk
  refine lv_istore (lv' := (5, .int k) :: LV b ax am o j) C.1 C.2.1 dL_law_971 hl (by decide) rfl (fun ls hl => ?_)
  refine lv_aload_n C.1 C.2.1 dL_law_973 rfl (lv_at hl 4 rfl) ?_
  refine l_rd C I1 1 (lv_at hl 2 rfl) (lv_at hl 1 rfl) hj (by decide) rfl dL_law_974 dL_law_975 dL_law_977 dL_law_978 dL_law_979 ?_
  refine l_rd C I1 2 (lv_at hl 2 rfl) (lv_at hl 1 rfl) hj (by decide) rfl dL_law_980 dL_law_981 dL_law_983 dL_law_984 dL_law_985 ?_
  refine lm_i C D I1 (As := [.int (xs (j + 1)), .int (xs (j + 2))]) (rest := []) (w12_addScent l Γ am (AMs am) (xs (j + 1)) (xs (j + 2)) τ r τ' e2) mz_193 rfl ⟨Nat.le_of_ble_eq_true rfl, Nat.le_of_ble_eq_true rfl⟩ rfl (Nat.le_of_ble_eq_true rfl) hl.1 hcs5 dL_law_986 (fun H2 locs2 I2 => ?_)
  refine lv_istore (lv' := (6, .int r) :: (5, .int k) :: LV b ax am o j) C.1 C.2.1 dL_law_989 hl (by decide) rfl (fun ls hl => ?_)
  refine lv_aload_n C.1 C.2.1 dL_law_991 rfl (lv_at hl 5 rfl) ?_
  refine lm_i C D I2 (As := []) (rest := []) (w12_thrown l Γ am (AMs am) τ' (τ' 0 0 0) rfl) mz_161 rfl ⟨Nat.le_of_ble_eq_true rfl, Nat.le_of_ble_eq_true rfl⟩ rfl (Nat.le_of_ble_eq_true rfl) hl.1 hcs5 dL_law_992 (fun H3 locs3 I3 => ?_)
  refine lv_iload C.1 C.2.1 dL_law_995 (lv_at hl 1 rfl) ?_
  refine lv_icmp_eq (tgt := 1002) C.1 C.2.1 dL_law_997 (by decide) (fun _ => ?_) (fun h => absurd he.1 h)
  refine lv_iload C.1 C.2.1 dL_law_1002 (lv_at hl 1 rfl) ?_
  refine lv_if_ne (tgt := 1019) C.1 C.2.1 dL_law_1004 (by decide) (fun _ => (by refine lv_goto (tgt := 3262) C.1 C.2.1 dL_law_1019 (by decide) ?_; exact K _ _ _ _ _ _ I3 hR' (lv_sub hl [2, 3, 4, 5, 6] rfl))) (fun h => ?_)
  obtain ⟨h1, h2, h3⟩ := he.2 h
  refine lv_aload_n C.1 C.2.1 dL_law_1007 rfl (lv_at hl 6 rfl) ?_
  refine lv_iconst (v := 0) C.1 C.2.1 dL_law_1008 (by decide) ?_
  refine va_lald C.1 C.2.1 C.2.2.2.2.2.1 (vaP1 I3.2.2.2) 0 5 rfl rfl vp01 dL_law_1009 ?_
  refine lv_iload C.1 C.2.1 dL_law_1010 (lv_at hl 0 rfl) ?_
  refine lv_i2l C.1 C.2.1 dL_law_1012 rfl ?_
  refine W.lcmp C.1 C.2.1 dL_law_1013 ?_
  refine lv_if_eq (tgt := 1019) C.1 C.2.1 dL_law_1014 (by decide) (fun _ => (by refine lv_goto (tgt := 3262) C.1 C.2.1 dL_law_1019 (by decide) ?_; exact K _ _ _ _ _ _ I3 hR' (lv_sub hl [2, 3, 4, 5, 6] rfl))) (fun h => absurd (lg0 (by rw [h2]; exact h3)) h)
set_option maxHeartbeats 4000000 in
set_option maxRecDepth 100000 in
theorem lc_11 (C : LC l Γ p s m b L xs c) (D : LD s ax am o) (I : LI Γ s ax am o σ τ f H locs) (hR : Rl σ τ) {j : Nat} (hj : j + 6 ≤ L ∧ L ≤ 3072) (hl : lv_has ls 9 (LV b ax am o j)) (hcs : cells + 5 ≤ 601024 ∧ slots + 30 ≤ 7293034) {x : Int32} (hx : x.toInt = 11) (K : LK p l e s m b below meth c Γ ax am o Q cells slots j) : W p l e room_1 s m #[Value.ref b] below meth c H locs cells slots Q (F0 m 40 ls [.int x]) := by
  have hcs5 : cells + 5 ≤ 601024 ∧ slots + 30 ≤ 7293034 := hcs
  refine lv_tableIn (off := 982) (tgt := 1022) C.1 C.2.1 dL_law_40 (by rw [hx]; decide) (by rw [hx]; decide) (by rw [hx]; rfl) (by decide) ?_
  obtain ⟨q, r, τ', e1, e2, hR', hc⟩ := lo_reportLost (xs (j + 1)) hR
  refine lv_aload_n C.1 C.2.1 dL_law_1022 rfl (lv_at hl 2 rfl) ?_
  refine l_rd C I 1 (lv_at hl 1 rfl) (lv_at hl 0 rfl) hj (by decide) rfl dL_law_1023 dL_law_1024 dL_law_1026 dL_law_1027 dL_law_1028 ?_
  refine lv_aload_n C.1 C.2.1 dL_law_1029 rfl (lv_at hl 4 rfl) ?_
  refine lw_s C D I (As := [.ref (ax 0 0), .int (xs (j + 1)), .ref o]) (rest := []) (wL_reportLost l (C.2.2.2.2.2.2.2.2.2.2.2) Γ ax o (xs (j + 1)) σ q e1 (by simpa using hq_of hc)) mz_194 ⟨Nat.le_of_ble_eq_true rfl, Nat.le_of_ble_eq_true rfl⟩ rfl (Nat.le_of_ble_eq_true rfl) hl.1 (by decide) hcs dL_law_1030 (fun k f1 H1 locs1 I1 hk => ?_)
  have he := th_eq (by decide) (by decide) hc hk
  refine lv_istore (lv' := (5, .int k) :: LV b ax am o j) C.1 C.2.1 dL_law_1033 hl (by decide) rfl (fun ls hl => ?_)
  refine lv_aload_n C.1 C.2.1 dL_law_1035 rfl (lv_at hl 4 rfl) ?_
  refine l_rd C I1 1 (lv_at hl 2 rfl) (lv_at hl 1 rfl) hj (by decide) rfl dL_law_1036 dL_law_1037 dL_law_1039 dL_law_1040 dL_law_1041 ?_
  refine lm_i C D I1 (As := [.int (xs (j + 1))]) (rest := []) (w12_reportLost l Γ am (AMs am) (xs (j + 1)) τ r τ' e2) mz_196 rfl ⟨Nat.le_of_ble_eq_true rfl, Nat.le_of_ble_eq_true rfl⟩ rfl (Nat.le_of_ble_eq_true rfl) hl.1 hcs5 dL_law_1042 (fun H2 locs2 I2 => ?_)
  refine lv_istore (lv' := (6, .int r) :: (5, .int k) :: LV b ax am o j) C.1 C.2.1 dL_law_1045 hl (by decide) rfl (fun ls hl => ?_)
  refine lv_aload_n C.1 C.2.1 dL_law_1047 rfl (lv_at hl 5 rfl) ?_
  refine lm_i C D I2 (As := []) (rest := []) (w12_thrown l Γ am (AMs am) τ' (τ' 0 0 0) rfl) mz_161 rfl ⟨Nat.le_of_ble_eq_true rfl, Nat.le_of_ble_eq_true rfl⟩ rfl (Nat.le_of_ble_eq_true rfl) hl.1 hcs5 dL_law_1048 (fun H3 locs3 I3 => ?_)
  refine lv_iload C.1 C.2.1 dL_law_1051 (lv_at hl 1 rfl) ?_
  refine lv_icmp_eq (tgt := 1058) C.1 C.2.1 dL_law_1053 (by decide) (fun _ => ?_) (fun h => absurd he.1 h)
  refine lv_iload C.1 C.2.1 dL_law_1058 (lv_at hl 1 rfl) ?_
  refine lv_if_ne (tgt := 1075) C.1 C.2.1 dL_law_1060 (by decide) (fun _ => (by refine lv_goto (tgt := 3262) C.1 C.2.1 dL_law_1075 (by decide) ?_; exact K _ _ _ _ _ _ I3 hR' (lv_sub hl [2, 3, 4, 5, 6] rfl))) (fun h => ?_)
  obtain ⟨h1, h2, h3⟩ := he.2 h
  refine lv_aload_n C.1 C.2.1 dL_law_1063 rfl (lv_at hl 6 rfl) ?_
  refine lv_iconst (v := 0) C.1 C.2.1 dL_law_1064 (by decide) ?_
  refine va_lald C.1 C.2.1 C.2.2.2.2.2.1 (vaP1 I3.2.2.2) 0 5 rfl rfl vp01 dL_law_1065 ?_
  refine lv_iload C.1 C.2.1 dL_law_1066 (lv_at hl 0 rfl) ?_
  refine lv_i2l C.1 C.2.1 dL_law_1068 rfl ?_
  refine W.lcmp C.1 C.2.1 dL_law_1069 ?_
  refine lv_if_eq (tgt := 1075) C.1 C.2.1 dL_law_1070 (by decide) (fun _ => (by refine lv_goto (tgt := 3262) C.1 C.2.1 dL_law_1075 (by decide) ?_; exact K _ _ _ _ _ _ I3 hR' (lv_sub hl [2, 3, 4, 5, 6] rfl))) (fun h => absurd (lg0 (by rw [h2]; exact h3)) h)
set_option maxHeartbeats 4000000 in
set_option maxRecDepth 100000 in
theorem lc_12 (C : LC l Γ p s m b L xs c) (D : LD s ax am o) (I : LI Γ s ax am o σ τ f H locs) (hR : Rl σ τ) {j : Nat} (hj : j + 6 ≤ L ∧ L ≤ 3072) (hl : lv_has ls 9 (LV b ax am o j)) (hcs : cells + 5 ≤ 601024 ∧ slots + 30 ≤ 7293034) {x : Int32} (hx : x.toInt = 12) (K : LK p l e s m b below meth c Γ ax am o Q cells slots j) : W p l e room_1 s m #[Value.ref b] below meth c H locs cells slots Q (F0 m 40 ls [.int x]) := by
  have hcs5 : cells + 5 ≤ 601024 ∧ slots + 30 ≤ 7293034 := hcs
  refine lv_tableIn (off := 1038) (tgt := 1078) C.1 C.2.1 dL_law_40 (by rw [hx]; decide) (by rw [hx]; decide) (by rw [hx]; rfl) (by decide) ?_
  obtain ⟨q, r, τ', e1, e2, hR', hc⟩ := lo_replaceCard (xs (j + 1)) hR
  refine lv_aload_n C.1 C.2.1 dL_law_1078 rfl (lv_at hl 2 rfl) ?_
  refine l_rd C I 1 (lv_at hl 1 rfl) (lv_at hl 0 rfl) hj (by decide) rfl dL_law_1079 dL_law_1080 dL_law_1082 dL_law_1083 dL_law_1084 ?_
  refine lv_aload_n C.1 C.2.1 dL_law_1085 rfl (lv_at hl 4 rfl) ?_
  refine lw_s C D I (As := [.ref (ax 0 0), .int (xs (j + 1)), .ref o]) (rest := []) (wL_replaceCard l (C.2.2.2.2.2.2.2.2.2.2.2) Γ ax o (xs (j + 1)) σ q e1 (by simpa using hq_of hc)) mz_197 ⟨Nat.le_of_ble_eq_true rfl, Nat.le_of_ble_eq_true rfl⟩ rfl (Nat.le_of_ble_eq_true rfl) hl.1 (by decide) hcs dL_law_1086 (fun k f1 H1 locs1 I1 hk => ?_)
  have he := th_eq (by decide) (by decide) hc hk
  refine lv_istore (lv' := (5, .int k) :: LV b ax am o j) C.1 C.2.1 dL_law_1089 hl (by decide) rfl (fun ls hl => ?_)
  refine lv_aload_n C.1 C.2.1 dL_law_1091 rfl (lv_at hl 4 rfl) ?_
  refine l_rd C I1 1 (lv_at hl 2 rfl) (lv_at hl 1 rfl) hj (by decide) rfl dL_law_1092 dL_law_1093 dL_law_1095 dL_law_1096 dL_law_1097 ?_
  refine lm_i C D I1 (As := [.int (xs (j + 1))]) (rest := []) (w12_replaceCard l Γ am (AMs am) (xs (j + 1)) τ r τ' e2) mz_199 rfl ⟨Nat.le_of_ble_eq_true rfl, Nat.le_of_ble_eq_true rfl⟩ rfl (Nat.le_of_ble_eq_true rfl) hl.1 hcs5 dL_law_1098 (fun H2 locs2 I2 => ?_)
  refine lv_istore (lv' := (6, .int r) :: (5, .int k) :: LV b ax am o j) C.1 C.2.1 dL_law_1101 hl (by decide) rfl (fun ls hl => ?_)
  refine lv_aload_n C.1 C.2.1 dL_law_1103 rfl (lv_at hl 5 rfl) ?_
  refine lm_i C D I2 (As := []) (rest := []) (w12_thrown l Γ am (AMs am) τ' (τ' 0 0 0) rfl) mz_161 rfl ⟨Nat.le_of_ble_eq_true rfl, Nat.le_of_ble_eq_true rfl⟩ rfl (Nat.le_of_ble_eq_true rfl) hl.1 hcs5 dL_law_1104 (fun H3 locs3 I3 => ?_)
  refine lv_iload C.1 C.2.1 dL_law_1107 (lv_at hl 1 rfl) ?_
  refine lv_icmp_eq (tgt := 1114) C.1 C.2.1 dL_law_1109 (by decide) (fun _ => ?_) (fun h => absurd he.1 h)
  refine lv_iload C.1 C.2.1 dL_law_1114 (lv_at hl 1 rfl) ?_
  refine lv_if_ne (tgt := 1131) C.1 C.2.1 dL_law_1116 (by decide) (fun _ => (by refine lv_goto (tgt := 3262) C.1 C.2.1 dL_law_1131 (by decide) ?_; exact K _ _ _ _ _ _ I3 hR' (lv_sub hl [2, 3, 4, 5, 6] rfl))) (fun h => ?_)
  obtain ⟨h1, h2, h3⟩ := he.2 h
  refine lv_aload_n C.1 C.2.1 dL_law_1119 rfl (lv_at hl 6 rfl) ?_
  refine lv_iconst (v := 0) C.1 C.2.1 dL_law_1120 (by decide) ?_
  refine va_lald C.1 C.2.1 C.2.2.2.2.2.1 (vaP1 I3.2.2.2) 0 5 rfl rfl vp01 dL_law_1121 ?_
  refine lv_iload C.1 C.2.1 dL_law_1122 (lv_at hl 0 rfl) ?_
  refine lv_i2l C.1 C.2.1 dL_law_1124 rfl ?_
  refine W.lcmp C.1 C.2.1 dL_law_1125 ?_
  refine lv_if_eq (tgt := 1131) C.1 C.2.1 dL_law_1126 (by decide) (fun _ => (by refine lv_goto (tgt := 3262) C.1 C.2.1 dL_law_1131 (by decide) ?_; exact K _ _ _ _ _ _ I3 hR' (lv_sub hl [2, 3, 4, 5, 6] rfl))) (fun h => absurd (lg0 (by rw [h2]; exact h3)) h)
set_option maxHeartbeats 4000000 in
set_option maxRecDepth 100000 in
theorem lc_13 (C : LC l Γ p s m b L xs c) (D : LD s ax am o) (I : LI Γ s ax am o σ τ f H locs) (hR : Rl σ τ) {j : Nat} (hj : j + 6 ≤ L ∧ L ≤ 3072) (hl : lv_has ls 9 (LV b ax am o j)) (hcs : cells + 5 ≤ 601024 ∧ slots + 30 ≤ 7293034) {x : Int32} (hx : x.toInt = 13) (K : LK p l e s m b below meth c Γ ax am o Q cells slots j) : W p l e room_1 s m #[Value.ref b] below meth c H locs cells slots Q (F0 m 40 ls [.int x]) := by
  have hcs5 : cells + 5 ≤ 601024 ∧ slots + 30 ≤ 7293034 := hcs
  refine lv_tableIn (off := 1094) (tgt := 1134) C.1 C.2.1 dL_law_40 (by rw [hx]; decide) (by rw [hx]; decide) (by rw [hx]; rfl) (by decide) ?_
  obtain ⟨q, r, τ', e1, e2, hR', hc⟩ := lo_refundPass (xs (j + 1)) hR
  refine lv_aload_n C.1 C.2.1 dL_law_1134 rfl (lv_at hl 2 rfl) ?_
  refine l_rd C I 1 (lv_at hl 1 rfl) (lv_at hl 0 rfl) hj (by decide) rfl dL_law_1135 dL_law_1136 dL_law_1138 dL_law_1139 dL_law_1140 ?_
  refine lv_aload_n C.1 C.2.1 dL_law_1141 rfl (lv_at hl 4 rfl) ?_
  refine lw_s C D I (As := [.ref (ax 0 0), .int (xs (j + 1)), .ref o]) (rest := []) (wL_refundPass l (C.2.2.2.2.2.2.2.2.2.2.2) Γ ax o (xs (j + 1)) σ q e1 (by simpa using hq_of hc)) mz_200 ⟨Nat.le_of_ble_eq_true rfl, Nat.le_of_ble_eq_true rfl⟩ rfl (Nat.le_of_ble_eq_true rfl) hl.1 (by decide) hcs dL_law_1142 (fun k f1 H1 locs1 I1 hk => ?_)
  have he := th_eq (by decide) (by decide) hc hk
  refine lv_istore (lv' := (5, .int k) :: LV b ax am o j) C.1 C.2.1 dL_law_1145 hl (by decide) rfl (fun ls hl => ?_)
  refine lv_aload_n C.1 C.2.1 dL_law_1147 rfl (lv_at hl 4 rfl) ?_
  refine l_rd C I1 1 (lv_at hl 2 rfl) (lv_at hl 1 rfl) hj (by decide) rfl dL_law_1148 dL_law_1149 dL_law_1151 dL_law_1152 dL_law_1153 ?_
  refine lm_i C D I1 (As := [.int (xs (j + 1))]) (rest := []) (w12_refundPass l Γ am (AMs am) (xs (j + 1)) τ r τ' e2) mz_202 rfl ⟨Nat.le_of_ble_eq_true rfl, Nat.le_of_ble_eq_true rfl⟩ rfl (Nat.le_of_ble_eq_true rfl) hl.1 hcs5 dL_law_1154 (fun H2 locs2 I2 => ?_)
  refine lv_istore (lv' := (6, .int r) :: (5, .int k) :: LV b ax am o j) C.1 C.2.1 dL_law_1157 hl (by decide) rfl (fun ls hl => ?_)
  refine lv_aload_n C.1 C.2.1 dL_law_1159 rfl (lv_at hl 5 rfl) ?_
  refine lm_i C D I2 (As := []) (rest := []) (w12_thrown l Γ am (AMs am) τ' (τ' 0 0 0) rfl) mz_161 rfl ⟨Nat.le_of_ble_eq_true rfl, Nat.le_of_ble_eq_true rfl⟩ rfl (Nat.le_of_ble_eq_true rfl) hl.1 hcs5 dL_law_1160 (fun H3 locs3 I3 => ?_)
  refine lv_iload C.1 C.2.1 dL_law_1163 (lv_at hl 1 rfl) ?_
  refine lv_icmp_eq (tgt := 1170) C.1 C.2.1 dL_law_1165 (by decide) (fun _ => ?_) (fun h => absurd he.1 h)
  refine lv_iload C.1 C.2.1 dL_law_1170 (lv_at hl 1 rfl) ?_
  refine lv_if_ne (tgt := 1187) C.1 C.2.1 dL_law_1172 (by decide) (fun _ => (by refine lv_goto (tgt := 3262) C.1 C.2.1 dL_law_1187 (by decide) ?_; exact K _ _ _ _ _ _ I3 hR' (lv_sub hl [2, 3, 4, 5, 6] rfl))) (fun h => ?_)
  obtain ⟨h1, h2, h3⟩ := he.2 h
  refine lv_aload_n C.1 C.2.1 dL_law_1175 rfl (lv_at hl 6 rfl) ?_
  refine lv_iconst (v := 0) C.1 C.2.1 dL_law_1176 (by decide) ?_
  refine va_lald C.1 C.2.1 C.2.2.2.2.2.1 (vaP1 I3.2.2.2) 0 5 rfl rfl vp01 dL_law_1177 ?_
  refine lv_iload C.1 C.2.1 dL_law_1178 (lv_at hl 0 rfl) ?_
  refine lv_i2l C.1 C.2.1 dL_law_1180 rfl ?_
  refine W.lcmp C.1 C.2.1 dL_law_1181 ?_
  refine lv_if_eq (tgt := 1187) C.1 C.2.1 dL_law_1182 (by decide) (fun _ => (by refine lv_goto (tgt := 3262) C.1 C.2.1 dL_law_1187 (by decide) ?_; exact K _ _ _ _ _ _ I3 hR' (lv_sub hl [2, 3, 4, 5, 6] rfl))) (fun h => absurd (lg0 (by rw [h2]; exact h3)) h)
set_option maxHeartbeats 4000000 in
set_option maxRecDepth 100000 in
theorem lc_14 (C : LC l Γ p s m b L xs c) (D : LD s ax am o) (I : LI Γ s ax am o σ τ f H locs) (hR : Rl σ τ) {j : Nat} (hj : j + 6 ≤ L ∧ L ≤ 3072) (hl : lv_has ls 9 (LV b ax am o j)) (hcs : cells + 5 ≤ 601024 ∧ slots + 30 ≤ 7293034) {x : Int32} (hx : x.toInt = 14) (K : LK p l e s m b below meth c Γ ax am o Q cells slots j) : W p l e room_1 s m #[Value.ref b] below meth c H locs cells slots Q (F0 m 40 ls [.int x]) := by
  have hcs5 : cells + 5 ≤ 601024 ∧ slots + 30 ≤ 7293034 := hcs
  refine lv_tableIn (off := 1150) (tgt := 1190) C.1 C.2.1 dL_law_40 (by rw [hx]; decide) (by rw [hx]; decide) (by rw [hx]; rfl) (by decide) ?_
  obtain ⟨q, r, τ', e1, e2, hR', hc⟩ := lo_visit (xs (j + 1)) (xs (j + 2)) hR
  refine lv_aload_n C.1 C.2.1 dL_law_1190 rfl (lv_at hl 2 rfl) ?_
  refine l_rd C I 1 (lv_at hl 1 rfl) (lv_at hl 0 rfl) hj (by decide) rfl dL_law_1191 dL_law_1192 dL_law_1194 dL_law_1195 dL_law_1196 ?_
  refine l_rd C I 2 (lv_at hl 1 rfl) (lv_at hl 0 rfl) hj (by decide) rfl dL_law_1197 dL_law_1198 dL_law_1200 dL_law_1201 dL_law_1202 ?_
  refine lv_aload_n C.1 C.2.1 dL_law_1203 rfl (lv_at hl 4 rfl) ?_
  refine lw_s C D I (As := [.ref (ax 0 0), .int (xs (j + 1)), .int (xs (j + 2)), .ref o]) (rest := []) (wL_visit l (C.2.2.2.2.2.2.2.2.2.2.2) Γ ax o (xs (j + 1)) (xs (j + 2)) σ q e1 (by simpa using hq_of hc)) mz_203 ⟨Nat.le_of_ble_eq_true rfl, Nat.le_of_ble_eq_true rfl⟩ rfl (Nat.le_of_ble_eq_true rfl) hl.1 (by decide) hcs dL_law_1204 (fun k f1 H1 locs1 I1 hk => ?_)
  have he := th_eq (by decide) (by decide) hc hk
  refine lv_istore (lv' := (5, .int k) :: LV b ax am o j) C.1 C.2.1 dL_law_1207 hl (by decide) rfl (fun ls hl => ?_)
  refine lv_aload_n C.1 C.2.1 dL_law_1209 rfl (lv_at hl 4 rfl) ?_
  refine l_rd C I1 1 (lv_at hl 2 rfl) (lv_at hl 1 rfl) hj (by decide) rfl dL_law_1210 dL_law_1211 dL_law_1213 dL_law_1214 dL_law_1215 ?_
  refine l_rd C I1 2 (lv_at hl 2 rfl) (lv_at hl 1 rfl) hj (by decide) rfl dL_law_1216 dL_law_1217 dL_law_1219 dL_law_1220 dL_law_1221 ?_
  refine lm_i C D I1 (As := [.int (xs (j + 1)), .int (xs (j + 2))]) (rest := []) (w12_visit l Γ am (AMs am) (xs (j + 1)) (xs (j + 2)) τ r τ' e2) mz_205 rfl ⟨Nat.le_of_ble_eq_true rfl, Nat.le_of_ble_eq_true rfl⟩ rfl (Nat.le_of_ble_eq_true rfl) hl.1 hcs5 dL_law_1222 (fun H2 locs2 I2 => ?_)
  refine lv_istore (lv' := (6, .int r) :: (5, .int k) :: LV b ax am o j) C.1 C.2.1 dL_law_1225 hl (by decide) rfl (fun ls hl => ?_)
  refine lv_aload_n C.1 C.2.1 dL_law_1227 rfl (lv_at hl 5 rfl) ?_
  refine lm_i C D I2 (As := []) (rest := []) (w12_thrown l Γ am (AMs am) τ' (τ' 0 0 0) rfl) mz_161 rfl ⟨Nat.le_of_ble_eq_true rfl, Nat.le_of_ble_eq_true rfl⟩ rfl (Nat.le_of_ble_eq_true rfl) hl.1 hcs5 dL_law_1228 (fun H3 locs3 I3 => ?_)
  refine lv_iload C.1 C.2.1 dL_law_1231 (lv_at hl 1 rfl) ?_
  refine lv_icmp_eq (tgt := 1238) C.1 C.2.1 dL_law_1233 (by decide) (fun _ => ?_) (fun h => absurd he.1 h)
  refine lv_iload C.1 C.2.1 dL_law_1238 (lv_at hl 1 rfl) ?_
  refine lv_if_ne (tgt := 1255) C.1 C.2.1 dL_law_1240 (by decide) (fun _ => (by refine lv_goto (tgt := 3262) C.1 C.2.1 dL_law_1255 (by decide) ?_; exact K _ _ _ _ _ _ I3 hR' (lv_sub hl [2, 3, 4, 5, 6] rfl))) (fun h => ?_)
  obtain ⟨h1, h2, h3⟩ := he.2 h
  refine lv_aload_n C.1 C.2.1 dL_law_1243 rfl (lv_at hl 6 rfl) ?_
  refine lv_iconst (v := 0) C.1 C.2.1 dL_law_1244 (by decide) ?_
  refine va_lald C.1 C.2.1 C.2.2.2.2.2.1 (vaP1 I3.2.2.2) 0 5 rfl rfl vp01 dL_law_1245 ?_
  refine lv_iload C.1 C.2.1 dL_law_1246 (lv_at hl 0 rfl) ?_
  refine lv_i2l C.1 C.2.1 dL_law_1248 rfl ?_
  refine W.lcmp C.1 C.2.1 dL_law_1249 ?_
  refine lv_if_eq (tgt := 1255) C.1 C.2.1 dL_law_1250 (by decide) (fun _ => (by refine lv_goto (tgt := 3262) C.1 C.2.1 dL_law_1255 (by decide) ?_; exact K _ _ _ _ _ _ I3 hR' (lv_sub hl [2, 3, 4, 5, 6] rfl))) (fun h => absurd (lg0 (by rw [h2]; exact h3)) h)
set_option maxHeartbeats 4000000 in
set_option maxRecDepth 100000 in
theorem lc_15 (C : LC l Γ p s m b L xs c) (D : LD s ax am o) (I : LI Γ s ax am o σ τ f H locs) (hR : Rl σ τ) {j : Nat} (hj : j + 6 ≤ L ∧ L ≤ 3072) (hl : lv_has ls 9 (LV b ax am o j)) (hcs : cells + 5 ≤ 601024 ∧ slots + 30 ≤ 7293034) {x : Int32} (hx : x.toInt = 15) (K : LK p l e s m b below meth c Γ ax am o Q cells slots j) : W p l e room_1 s m #[Value.ref b] below meth c H locs cells slots Q (F0 m 40 ls [.int x]) := by
  have hcs5 : cells + 5 ≤ 601024 ∧ slots + 30 ≤ 7293034 := hcs
  refine lv_tableIn (off := 1218) (tgt := 1258) C.1 C.2.1 dL_law_40 (by rw [hx]; decide) (by rw [hx]; decide) (by rw [hx]; rfl) (by decide) ?_
  obtain ⟨q, r, τ', e1, e2, hR', hc⟩ := lo_pluck (xs (j + 1)) (xs (j + 2)) hR
  refine lv_aload_n C.1 C.2.1 dL_law_1258 rfl (lv_at hl 2 rfl) ?_
  refine l_rd C I 1 (lv_at hl 1 rfl) (lv_at hl 0 rfl) hj (by decide) rfl dL_law_1259 dL_law_1260 dL_law_1262 dL_law_1263 dL_law_1264 ?_
  refine l_rd C I 2 (lv_at hl 1 rfl) (lv_at hl 0 rfl) hj (by decide) rfl dL_law_1265 dL_law_1266 dL_law_1268 dL_law_1269 dL_law_1270 ?_
  refine lv_aload_n C.1 C.2.1 dL_law_1271 rfl (lv_at hl 4 rfl) ?_
  refine lw_s C D I (As := [.ref (ax 0 0), .int (xs (j + 1)), .int (xs (j + 2)), .ref o]) (rest := []) (wL_pluck l (C.2.2.2.2.2.2.2.2.2.2.2) Γ ax o (xs (j + 1)) (xs (j + 2)) σ q e1 (by simpa using hq_of hc)) mz_206 ⟨Nat.le_of_ble_eq_true rfl, Nat.le_of_ble_eq_true rfl⟩ rfl (Nat.le_of_ble_eq_true rfl) hl.1 (by decide) hcs dL_law_1272 (fun k f1 H1 locs1 I1 hk => ?_)
  have he := th_eq (by decide) (by decide) hc hk
  refine lv_istore (lv' := (5, .int k) :: LV b ax am o j) C.1 C.2.1 dL_law_1275 hl (by decide) rfl (fun ls hl => ?_)
  refine lv_aload_n C.1 C.2.1 dL_law_1277 rfl (lv_at hl 4 rfl) ?_
  refine l_rd C I1 1 (lv_at hl 2 rfl) (lv_at hl 1 rfl) hj (by decide) rfl dL_law_1278 dL_law_1279 dL_law_1281 dL_law_1282 dL_law_1283 ?_
  refine l_rd C I1 2 (lv_at hl 2 rfl) (lv_at hl 1 rfl) hj (by decide) rfl dL_law_1284 dL_law_1285 dL_law_1287 dL_law_1288 dL_law_1289 ?_
  refine lm_i C D I1 (As := [.int (xs (j + 1)), .int (xs (j + 2))]) (rest := []) (w12_pluck l Γ am (AMs am) (xs (j + 1)) (xs (j + 2)) τ r τ' e2) mz_208 rfl ⟨Nat.le_of_ble_eq_true rfl, Nat.le_of_ble_eq_true rfl⟩ rfl (Nat.le_of_ble_eq_true rfl) hl.1 hcs5 dL_law_1290 (fun H2 locs2 I2 => ?_)
  refine lv_istore (lv' := (6, .int r) :: (5, .int k) :: LV b ax am o j) C.1 C.2.1 dL_law_1293 hl (by decide) rfl (fun ls hl => ?_)
  refine lv_aload_n C.1 C.2.1 dL_law_1295 rfl (lv_at hl 5 rfl) ?_
  refine lm_i C D I2 (As := []) (rest := []) (w12_thrown l Γ am (AMs am) τ' (τ' 0 0 0) rfl) mz_161 rfl ⟨Nat.le_of_ble_eq_true rfl, Nat.le_of_ble_eq_true rfl⟩ rfl (Nat.le_of_ble_eq_true rfl) hl.1 hcs5 dL_law_1296 (fun H3 locs3 I3 => ?_)
  refine lv_iload C.1 C.2.1 dL_law_1299 (lv_at hl 1 rfl) ?_
  refine lv_icmp_eq (tgt := 1306) C.1 C.2.1 dL_law_1301 (by decide) (fun _ => ?_) (fun h => absurd he.1 h)
  refine lv_iload C.1 C.2.1 dL_law_1306 (lv_at hl 1 rfl) ?_
  refine lv_if_ne (tgt := 1323) C.1 C.2.1 dL_law_1308 (by decide) (fun _ => (by refine lv_goto (tgt := 3262) C.1 C.2.1 dL_law_1323 (by decide) ?_; exact K _ _ _ _ _ _ I3 hR' (lv_sub hl [2, 3, 4, 5, 6] rfl))) (fun h => ?_)
  obtain ⟨h1, h2, h3⟩ := he.2 h
  refine lv_aload_n C.1 C.2.1 dL_law_1311 rfl (lv_at hl 6 rfl) ?_
  refine lv_iconst (v := 0) C.1 C.2.1 dL_law_1312 (by decide) ?_
  refine va_lald C.1 C.2.1 C.2.2.2.2.2.1 (vaP1 I3.2.2.2) 0 5 rfl rfl vp01 dL_law_1313 ?_
  refine lv_iload C.1 C.2.1 dL_law_1314 (lv_at hl 0 rfl) ?_
  refine lv_i2l C.1 C.2.1 dL_law_1316 rfl ?_
  refine W.lcmp C.1 C.2.1 dL_law_1317 ?_
  refine lv_if_eq (tgt := 1323) C.1 C.2.1 dL_law_1318 (by decide) (fun _ => (by refine lv_goto (tgt := 3262) C.1 C.2.1 dL_law_1323 (by decide) ?_; exact K _ _ _ _ _ _ I3 hR' (lv_sub hl [2, 3, 4, 5, 6] rfl))) (fun h => absurd (lg0 (by rw [h2]; exact h3)) h)
end LWC
