/-! printed: the law's cases 56 to 63, decoded; their words -/
theorem dL_law_3045 : decode cL_law 3045 = .ok (.aload_n 1, 1) := by decide +kernel
theorem dL_law_3046 : decode cL_law 3046 = .ok (.invokevirtual 346, 3) := by decide +kernel
theorem dL_law_3049 : decode cL_law 3049 = .ok (.aload_n 2, 1) := by decide +kernel
theorem dL_law_3050 : decode cL_law 3050 = .ok (.invokevirtual 349, 3) := by decide +kernel
theorem dL_law_3053 : decode cL_law 3053 = .ok (.if_icmp .eq 209, 3) := by decide +kernel
theorem dL_law_3058 : decode cL_law 3058 = .ok (.aload_n 1, 1) := by decide +kernel
theorem dL_law_3059 : decode cL_law 3059 = .ok (.invokevirtual 350, 3) := by decide +kernel
theorem dL_law_3062 : decode cL_law 3062 = .ok (.aload_n 2, 1) := by decide +kernel
theorem dL_law_3063 : decode cL_law 3063 = .ok (.invokevirtual 353, 3) := by decide +kernel
theorem dL_law_3066 : decode cL_law 3066 = .ok (.if_icmp .eq 196, 3) := by decide +kernel
theorem dL_law_3071 : decode cL_law 3071 = .ok (.aload_n 1, 1) := by decide +kernel
theorem dL_law_3072 : decode cL_law 3072 = .ok (.invokevirtual 354, 3) := by decide +kernel
theorem dL_law_3075 : decode cL_law 3075 = .ok (.aload_n 2, 1) := by decide +kernel
theorem dL_law_3076 : decode cL_law 3076 = .ok (.invokevirtual 357, 3) := by decide +kernel
theorem dL_law_3079 : decode cL_law 3079 = .ok (.if_icmp .eq 183, 3) := by decide +kernel
theorem dL_law_3084 : decode cL_law 3084 = .ok (.aload_n 1, 1) := by decide +kernel
theorem dL_law_3085 : decode cL_law 3085 = .ok (.invokevirtual 358, 3) := by decide +kernel
theorem dL_law_3088 : decode cL_law 3088 = .ok (.dstore 5, 2) := by decide +kernel
theorem dL_law_3090 : decode cL_law 3090 = .ok (.aload_n 2, 1) := by decide +kernel
theorem dL_law_3091 : decode cL_law 3091 = .ok (.invokevirtual 362, 3) := by decide +kernel
theorem dL_law_3094 : decode cL_law 3094 = .ok (.dstore 7, 2) := by decide +kernel
theorem dL_law_3096 : decode cL_law 3096 = .ok (.dload 5, 2) := by decide +kernel
theorem dL_law_3098 : decode cL_law 3098 = .ok (.dload 7, 2) := by decide +kernel
theorem dL_law_3100 : decode cL_law 3100 = .ok (.dcmp .l, 1) := by decide +kernel
theorem dL_law_3101 : decode cL_law 3101 = .ok (.ifCond .eq 21, 3) := by decide +kernel
theorem dL_law_3104 : decode cL_law 3104 = .ok (.dload 5, 2) := by decide +kernel
theorem dL_law_3106 : decode cL_law 3106 = .ok (.dload 5, 2) := by decide +kernel
theorem dL_law_3108 : decode cL_law 3108 = .ok (.dcmp .l, 1) := by decide +kernel
theorem dL_law_3109 : decode cL_law 3109 = .ok (.ifCond .eq 11, 3) := by decide +kernel
theorem dL_law_3112 : decode cL_law 3112 = .ok (.dload 7, 2) := by decide +kernel
theorem dL_law_3114 : decode cL_law 3114 = .ok (.dload 7, 2) := by decide +kernel
theorem dL_law_3116 : decode cL_law 3116 = .ok (.dcmp .l, 1) := by decide +kernel
theorem dL_law_3117 : decode cL_law 3117 = .ok (.ifCond .ne 5, 3) := by decide +kernel
theorem dL_law_3122 : decode cL_law 3122 = .ok (.goto 140, 3) := by decide +kernel
theorem dL_law_3125 : decode cL_law 3125 = .ok (.aload_n 1, 1) := by decide +kernel
theorem dL_law_3126 : decode cL_law 3126 = .ok (.invokevirtual 363, 3) := by decide +kernel
theorem dL_law_3129 : decode cL_law 3129 = .ok (.f2d, 1) := by decide +kernel
theorem dL_law_3130 : decode cL_law 3130 = .ok (.dstore 5, 2) := by decide +kernel
theorem dL_law_3132 : decode cL_law 3132 = .ok (.aload_n 2, 1) := by decide +kernel
theorem dL_law_3133 : decode cL_law 3133 = .ok (.invokevirtual 367, 3) := by decide +kernel
theorem dL_law_3136 : decode cL_law 3136 = .ok (.f2d, 1) := by decide +kernel
theorem dL_law_3137 : decode cL_law 3137 = .ok (.dstore 7, 2) := by decide +kernel
theorem dL_law_3139 : decode cL_law 3139 = .ok (.dload 5, 2) := by decide +kernel
theorem dL_law_3141 : decode cL_law 3141 = .ok (.dload 7, 2) := by decide +kernel
theorem dL_law_3143 : decode cL_law 3143 = .ok (.dcmp .l, 1) := by decide +kernel
theorem dL_law_3144 : decode cL_law 3144 = .ok (.ifCond .eq 21, 3) := by decide +kernel
theorem dL_law_3147 : decode cL_law 3147 = .ok (.dload 5, 2) := by decide +kernel
theorem dL_law_3149 : decode cL_law 3149 = .ok (.dload 5, 2) := by decide +kernel
theorem dL_law_3151 : decode cL_law 3151 = .ok (.dcmp .l, 1) := by decide +kernel
theorem dL_law_3152 : decode cL_law 3152 = .ok (.ifCond .eq 11, 3) := by decide +kernel
theorem dL_law_3155 : decode cL_law 3155 = .ok (.dload 7, 2) := by decide +kernel
theorem dL_law_3157 : decode cL_law 3157 = .ok (.dload 7, 2) := by decide +kernel
theorem dL_law_3159 : decode cL_law 3159 = .ok (.dcmp .l, 1) := by decide +kernel
theorem dL_law_3160 : decode cL_law 3160 = .ok (.ifCond .ne 5, 3) := by decide +kernel
theorem dL_law_3165 : decode cL_law 3165 = .ok (.goto 97, 3) := by decide +kernel
theorem dL_law_3168 : decode cL_law 3168 = .ok (.aload_n 1, 1) := by decide +kernel
theorem dL_law_3169 : decode cL_law 3169 = .ok (.invokevirtual 368, 3) := by decide +kernel
theorem dL_law_3172 : decode cL_law 3172 = .ok (.aload_n 2, 1) := by decide +kernel
theorem dL_law_3173 : decode cL_law 3173 = .ok (.invokevirtual 371, 3) := by decide +kernel
theorem dL_law_3176 : decode cL_law 3176 = .ok (.if_icmp .eq 86, 3) := by decide +kernel
theorem dL_law_3181 : decode cL_law 3181 = .ok (.aload_n 1, 1) := by decide +kernel
theorem dL_law_3182 : decode cL_law 3182 = .ok (.aload_n 0, 1) := by decide +kernel
theorem dL_law_3183 : decode cL_law 3183 = .ok (.iload 4, 2) := by decide +kernel
theorem dL_law_3185 : decode cL_law 3185 = .ok (.iconst 1, 1) := by decide +kernel
theorem dL_law_3186 : decode cL_law 3186 = .ok (.iadd, 1) := by decide +kernel
theorem dL_law_3187 : decode cL_law 3187 = .ok (.iaload, 1) := by decide +kernel
theorem dL_law_3188 : decode cL_law 3188 = .ok (.aload_n 3, 1) := by decide +kernel
theorem dL_law_3189 : decode cL_law 3189 = .ok (.invokestatic 372, 3) := by decide +kernel
theorem dL_law_3192 : decode cL_law 3192 = .ok (.istore 5, 2) := by decide +kernel
theorem dL_law_3194 : decode cL_law 3194 = .ok (.aload_n 2, 1) := by decide +kernel
theorem dL_law_3195 : decode cL_law 3195 = .ok (.aload_n 0, 1) := by decide +kernel
theorem dL_law_3196 : decode cL_law 3196 = .ok (.iload 4, 2) := by decide +kernel
theorem dL_law_3198 : decode cL_law 3198 = .ok (.iconst 1, 1) := by decide +kernel
theorem dL_law_3199 : decode cL_law 3199 = .ok (.iadd, 1) := by decide +kernel
theorem dL_law_3200 : decode cL_law 3200 = .ok (.iaload, 1) := by decide +kernel
theorem dL_law_3201 : decode cL_law 3201 = .ok (.invokevirtual 374, 3) := by decide +kernel
theorem dL_law_3204 : decode cL_law 3204 = .ok (.istore 6, 2) := by decide +kernel
theorem dL_law_3206 : decode cL_law 3206 = .ok (.aload_n 2, 1) := by decide +kernel
theorem dL_law_3207 : decode cL_law 3207 = .ok (.invokevirtual 161, 3) := by decide +kernel
theorem dL_law_3210 : decode cL_law 3210 = .ok (.iload 5, 2) := by decide +kernel
theorem dL_law_3212 : decode cL_law 3212 = .ok (.if_icmp .eq 5, 3) := by decide +kernel
theorem dL_law_3217 : decode cL_law 3217 = .ok (.iload 5, 2) := by decide +kernel
theorem dL_law_3219 : decode cL_law 3219 = .ok (.ifCond .ne 15, 3) := by decide +kernel
theorem dL_law_3222 : decode cL_law 3222 = .ok (.aload_n 3, 1) := by decide +kernel
theorem dL_law_3223 : decode cL_law 3223 = .ok (.iconst 0, 1) := by decide +kernel
theorem dL_law_3224 : decode cL_law 3224 = .ok (.laload, 1) := by decide +kernel
theorem dL_law_3225 : decode cL_law 3225 = .ok (.iload 6, 2) := by decide +kernel
theorem dL_law_3227 : decode cL_law 3227 = .ok (.i2l, 1) := by decide +kernel
theorem dL_law_3228 : decode cL_law 3228 = .ok (.lcmp, 1) := by decide +kernel
theorem dL_law_3229 : decode cL_law 3229 = .ok (.ifCond .eq 5, 3) := by decide +kernel
theorem dL_law_3234 : decode cL_law 3234 = .ok (.goto 28, 3) := by decide +kernel
theorem dL_law_3237 : decode cL_law 3237 = .ok (.aload_n 1, 1) := by decide +kernel
theorem dL_law_3238 : decode cL_law 3238 = .ok (.aload_n 0, 1) := by decide +kernel
theorem dL_law_3239 : decode cL_law 3239 = .ok (.iload 4, 2) := by decide +kernel
theorem dL_law_3241 : decode cL_law 3241 = .ok (.iconst 1, 1) := by decide +kernel
theorem dL_law_3242 : decode cL_law 3242 = .ok (.iadd, 1) := by decide +kernel
theorem dL_law_3243 : decode cL_law 3243 = .ok (.iaload, 1) := by decide +kernel
theorem dL_law_3244 : decode cL_law 3244 = .ok (.invokevirtual 375, 3) := by decide +kernel
theorem dL_law_3247 : decode cL_law 3247 = .ok (.aload_n 2, 1) := by decide +kernel
theorem dL_law_3248 : decode cL_law 3248 = .ok (.aload_n 0, 1) := by decide +kernel
theorem dL_law_3249 : decode cL_law 3249 = .ok (.iload 4, 2) := by decide +kernel
theorem dL_law_3251 : decode cL_law 3251 = .ok (.iconst 1, 1) := by decide +kernel
theorem dL_law_3252 : decode cL_law 3252 = .ok (.iadd, 1) := by decide +kernel
theorem dL_law_3253 : decode cL_law 3253 = .ok (.iaload, 1) := by decide +kernel
theorem dL_law_3254 : decode cL_law 3254 = .ok (.invokevirtual 378, 3) := by decide +kernel
theorem dL_law_3257 : decode cL_law 3257 = .ok (.if_icmp .eq 5, 3) := by decide +kernel
theorem lo_finesPaid {σ τ : Sig} (h : Rl σ τ) : OKp σ (f11_finesPaid σ) (f12_finesPaid τ) := by
  have e1 : xg σ 8 (σ 9) = σ := xg_self σ 8
  have e2 : mr τ (τ 0 1) = τ := mr_self τ
  have q := ok_finesPaid (σ := σ) (τ := τ) (G := σ 9) (w := τ 0 1) (by rw [e1, e2]; exact h)
  rw [e1, e2] at q
  exact q
theorem mz_346 : MWv RL 346 yX11_finesPaid cX11_finesPaid 1 (some .int) 0 := ⟨gw_t (tin4 (List.mem_of_getElem? (i := 167) rfl)) rfl, gw_t (tin4 (List.mem_of_getElem? (i := 168) rfl)) rfl, gw_t (tin4 (List.mem_of_getElem? (i := 169) rfl)) rfl, gw_t (tin1 (List.mem_of_getElem? (i := 1) rfl)) rfl, gw_t (tin4 (List.mem_of_getElem? (i := 170) rfl)) rfl, by decide, by decide, by decide +kernel⟩
theorem mz_349 : MWv RL 349 yX12_finesPaid cX12_finesPaid 1 (some .int) 0 := ⟨gw_t (tin9 (List.mem_of_getElem? (i := 129) rfl)) rfl, gw_t (tin9 (List.mem_of_getElem? (i := 130) rfl)) rfl, gw_t (tin9 (List.mem_of_getElem? (i := 131) rfl)) rfl, gw_t (tin1 (List.mem_of_getElem? (i := 19) rfl)) rfl, gw_t (tin9 (List.mem_of_getElem? (i := 132) rfl)) rfl, by decide, by decide, by decide +kernel⟩
theorem lo_plucked {σ τ : Sig} (h : Rl σ τ) : OKp σ (f11_plucked σ) (f12_plucked τ) := by
  have e1 : xg σ 8 (σ 9) = σ := xg_self σ 8
  have e2 : mr τ (τ 0 1) = τ := mr_self τ
  have q := ok_plucked (σ := σ) (τ := τ) (G := σ 9) (w := τ 0 1) (by rw [e1, e2]; exact h)
  rw [e1, e2] at q
  exact q
theorem mz_350 : MWv RL 350 yX11_plucked cX11_plucked 1 (some .int) 0 := ⟨gw_t (tin4 (List.mem_of_getElem? (i := 171) rfl)) rfl, gw_t (tin4 (List.mem_of_getElem? (i := 172) rfl)) rfl, gw_t (tin4 (List.mem_of_getElem? (i := 173) rfl)) rfl, gw_t (tin1 (List.mem_of_getElem? (i := 1) rfl)) rfl, gw_t (tin4 (List.mem_of_getElem? (i := 174) rfl)) rfl, by decide, by decide, by decide +kernel⟩
theorem mz_353 : MWv RL 353 yX12_plucked cX12_plucked 1 (some .int) 0 := ⟨gw_t (tin9 (List.mem_of_getElem? (i := 133) rfl)) rfl, gw_t (tin9 (List.mem_of_getElem? (i := 134) rfl)) rfl, gw_t (tin9 (List.mem_of_getElem? (i := 135) rfl)) rfl, gw_t (tin1 (List.mem_of_getElem? (i := 19) rfl)) rfl, gw_t (tin9 (List.mem_of_getElem? (i := 136) rfl)) rfl, by decide, by decide, by decide +kernel⟩
theorem lo_alarms {σ τ : Sig} (h : Rl σ τ) : OKp σ (f11_alarms σ) (f12_alarms τ) := by
  have e1 : xg σ 8 (σ 9) = σ := xg_self σ 8
  have e2 : mr τ (τ 0 1) = τ := mr_self τ
  have q := ok_alarms (σ := σ) (τ := τ) (G := σ 9) (w := τ 0 1) (by rw [e1, e2]; exact h)
  rw [e1, e2] at q
  exact q
theorem mz_354 : MWv RL 354 yX11_alarms cX11_alarms 1 (some .int) 0 := ⟨gw_t (tin4 (List.mem_of_getElem? (i := 175) rfl)) rfl, gw_t (tin4 (List.mem_of_getElem? (i := 176) rfl)) rfl, gw_t (tin4 (List.mem_of_getElem? (i := 177) rfl)) rfl, gw_t (tin1 (List.mem_of_getElem? (i := 1) rfl)) rfl, gw_t (tin4 (List.mem_of_getElem? (i := 178) rfl)) rfl, by decide, by decide, by decide +kernel⟩
theorem mz_357 : MWv RL 357 yX12_alarms cX12_alarms 1 (some .int) 0 := ⟨gw_t (tin9 (List.mem_of_getElem? (i := 137) rfl)) rfl, gw_t (tin9 (List.mem_of_getElem? (i := 138) rfl)) rfl, gw_t (tin9 (List.mem_of_getElem? (i := 139) rfl)) rfl, gw_t (tin1 (List.mem_of_getElem? (i := 19) rfl)) rfl, gw_t (tin9 (List.mem_of_getElem? (i := 140) rfl)) rfl, by decide, by decide, by decide +kernel⟩
theorem lo_visitsPerDay {σ τ : Sig} (h : Rl σ τ) : OKd σ (f11_visitsPerDay σ) (f12_visitsPerDay τ) := by
  have e1 : xg σ 8 (σ 9) = σ := xg_self σ 8
  have e2 : mr τ (τ 0 1) = τ := mr_self τ
  have q := ok_visitsPerDay (σ := σ) (τ := τ) (G := σ 9) (w := τ 0 1) (by rw [e1, e2]; exact h)
  rw [e1, e2] at q
  exact q
theorem mz_358 : MWv RL 358 yX11_visitsPerDay cX11_visitsPerDay 2 (some .double) 0 := ⟨gw_t (tin4 (List.mem_of_getElem? (i := 179) rfl)) rfl, gw_t (tin4 (List.mem_of_getElem? (i := 180) rfl)) rfl, gw_t (tin4 (List.mem_of_getElem? (i := 181) rfl)) rfl, gw_t (tin1 (List.mem_of_getElem? (i := 1) rfl)) rfl, gw_t (tin4 (List.mem_of_getElem? (i := 182) rfl)) rfl, by decide, by decide, by decide +kernel⟩
theorem mz_362 : MWv RL 362 yX12_visitsPerDay cX12_visitsPerDay 3 (some .double) 0 := ⟨gw_t (tin9 (List.mem_of_getElem? (i := 141) rfl)) rfl, gw_t (tin9 (List.mem_of_getElem? (i := 142) rfl)) rfl, gw_t (tin9 (List.mem_of_getElem? (i := 143) rfl)) rfl, gw_t (tin1 (List.mem_of_getElem? (i := 19) rfl)) rfl, gw_t (tin9 (List.mem_of_getElem? (i := 144) rfl)) rfl, by decide, by decide, by decide +kernel⟩
theorem mz_363 : MWv RL 363 yX11_blockedShare cX11_blockedShare 1 (some .float) 0 := ⟨gw_t (tin4 (List.mem_of_getElem? (i := 201) rfl)) rfl, gw_t (tin4 (List.mem_of_getElem? (i := 202) rfl)) rfl, gw_t (tin4 (List.mem_of_getElem? (i := 203) rfl)) rfl, gw_t (tin1 (List.mem_of_getElem? (i := 1) rfl)) rfl, gw_t (tin4 (List.mem_of_getElem? (i := 204) rfl)) rfl, by decide, by decide, by decide +kernel⟩
theorem mz_367 : MWv RL 367 yX12_blockedShare cX12_blockedShare 3 (some .float) 0 := ⟨gw_t (tin9 (List.mem_of_getElem? (i := 149) rfl)) rfl, gw_t (tin9 (List.mem_of_getElem? (i := 150) rfl)) rfl, gw_t (tin9 (List.mem_of_getElem? (i := 151) rfl)) rfl, gw_t (tin1 (List.mem_of_getElem? (i := 19) rfl)) rfl, gw_t (tin9 (List.mem_of_getElem? (i := 152) rfl)) rfl, by decide, by decide, by decide +kernel⟩
theorem lo_violations {σ τ : Sig} (h : Rl σ τ) : OKp σ (f11_violations σ) (f12_violations τ) := by
  have e1 : xg σ 8 (σ 9) = σ := xg_self σ 8
  have e2 : mr τ (τ 0 1) = τ := mr_self τ
  have q := ok_violations (σ := σ) (τ := τ) (G := σ 9) (w := τ 0 1) (by rw [e1, e2]; exact h)
  rw [e1, e2] at q
  exact q
theorem mz_368 : MWv RL 368 yX11_violations cX11_violations 1 (some .int) 0 := ⟨gw_t (tin4 (List.mem_of_getElem? (i := 209) rfl)) rfl, gw_t (tin4 (List.mem_of_getElem? (i := 210) rfl)) rfl, gw_t (tin4 (List.mem_of_getElem? (i := 211) rfl)) rfl, gw_t (tin1 (List.mem_of_getElem? (i := 1) rfl)) rfl, gw_t (tin4 (List.mem_of_getElem? (i := 212) rfl)) rfl, by decide, by decide, by decide +kernel⟩
theorem mz_371 : MWv RL 371 yX12_violations cX12_violations 6 (some .int) 0 := ⟨gw_t (tin9 (List.mem_of_getElem? (i := 153) rfl)) rfl, gw_t (tin9 (List.mem_of_getElem? (i := 154) rfl)) rfl, gw_t (tin9 (List.mem_of_getElem? (i := 155) rfl)) rfl, gw_t (tin1 (List.mem_of_getElem? (i := 19) rfl)) rfl, gw_t (tin9 (List.mem_of_getElem? (i := 156) rfl)) rfl, by decide, by decide, by decide +kernel⟩
theorem lo_writePass {σ τ : Sig} (a0 : Int32) (h : Rl σ τ) : OKx [2] (f11_writePass a0 σ) (f12_writePass a0 τ) := by
  have e1 : xg σ 8 (σ 9) = σ := xg_self σ 8
  have e2 : mr τ (τ 0 1) = τ := mr_self τ
  have q := ok_writePass (σ := σ) (τ := τ) (G := σ 9) (w := τ 0 1) a0 (by rw [e1, e2]; exact h)
  rw [e1, e2] at q
  exact q
theorem mz_372 : MWz 372 yL_writePass cL_writePass 4 [(0, 9, 12, 19)] 3 := ⟨gw_t (tin7 (List.mem_of_getElem? (i := 16) rfl)) rfl, gw_t (tin7 (List.mem_of_getElem? (i := 17) rfl)) rfl, gw_t (tin1 (List.mem_of_getElem? (i := 0) rfl)) rfl, gw_t (tin7 (List.mem_of_getElem? (i := 18) rfl)) rfl, by decide, by decide, by decide +kernel⟩
theorem mz_374 : MWv RL 374 yX12_writePass cX12_writePass 3 (some .int) 1 := ⟨gw_t (tin9 (List.mem_of_getElem? (i := 164) rfl)) rfl, gw_t (tin9 (List.mem_of_getElem? (i := 165) rfl)) rfl, gw_t (tin9 (List.mem_of_getElem? (i := 166) rfl)) rfl, gw_t (tin1 (List.mem_of_getElem? (i := 19) rfl)) rfl, gw_t (tin9 (List.mem_of_getElem? (i := 167) rfl)) rfl, by decide, by decide, by decide +kernel⟩
theorem lo_reportByte {σ τ : Sig} (a0 : Int32) (h : Rl σ τ) : OKp σ (f11_reportByte a0 σ) (f12_reportByte a0 τ) := by
  have e1 : xg σ 8 (σ 9) = σ := xg_self σ 8
  have e2 : mr τ (τ 0 1) = τ := mr_self τ
  have q := ok_reportByte (σ := σ) (τ := τ) (G := σ 9) (w := τ 0 1) a0 (by rw [e1, e2]; exact h)
  rw [e1, e2] at q
  exact q
theorem mz_375 : MWv RL 375 yX11_reportByte cX11_reportByte 2 (some .int) 1 := ⟨gw_t (tin5 (List.mem_of_getElem? (i := 1) rfl)) rfl, gw_t (tin5 (List.mem_of_getElem? (i := 2) rfl)) rfl, gw_t (tin5 (List.mem_of_getElem? (i := 3) rfl)) rfl, gw_t (tin1 (List.mem_of_getElem? (i := 1) rfl)) rfl, gw_t (tin5 (List.mem_of_getElem? (i := 4) rfl)) rfl, by decide, by decide, by decide +kernel⟩
theorem mz_378 : MWv RL 378 yX12_reportByte cX12_reportByte 2 (some .int) 1 := ⟨gw_t (tin9 (List.mem_of_getElem? (i := 172) rfl)) rfl, gw_t (tin9 (List.mem_of_getElem? (i := 173) rfl)) rfl, gw_t (tin9 (List.mem_of_getElem? (i := 174) rfl)) rfl, gw_t (tin1 (List.mem_of_getElem? (i := 19) rfl)) rfl, gw_t (tin9 (List.mem_of_getElem? (i := 175) rfl)) rfl, by decide, by decide, by decide +kernel⟩
