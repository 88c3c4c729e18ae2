/-! printed: the law's methods, decoded -/
theorem dL_visit_0 : decode cL_visit 0 = .ok (.aload_n 0, 1) := by decide +kernel
theorem dL_visit_1 : decode cL_visit 1 = .ok (.iload_n 1, 1) := by decide +kernel
theorem dL_visit_2 : decode cL_visit 2 = .ok (.iload_n 2, 1) := by decide +kernel
theorem dL_visit_3 : decode cL_visit 3 = .ok (.invokevirtual 62, 3) := by decide +kernel
theorem dL_visit_6 : decode cL_visit 6 = .ok (.ireturn, 1) := by decide +kernel
theorem dL_pass_0 : decode cL_pass 0 = .ok (.aload_n 0, 1) := by decide +kernel
theorem dL_pass_1 : decode cL_pass 1 = .ok (.iload_n 1, 1) := by decide +kernel
theorem dL_pass_2 : decode cL_pass 2 = .ok (.invokevirtual 71, 3) := by decide +kernel
theorem dL_pass_5 : decode cL_pass 5 = .ok (.ireturn, 1) := by decide +kernel
theorem dL_blooms_0 : decode cL_blooms 0 = .ok (.aload_n 0, 1) := by decide +kernel
theorem dL_blooms_1 : decode cL_blooms 1 = .ok (.iload_n 1, 1) := by decide +kernel
theorem dL_blooms_2 : decode cL_blooms 2 = .ok (.invokevirtual 77, 3) := by decide +kernel
theorem dL_blooms_5 : decode cL_blooms 5 = .ok (.ireturn, 1) := by decide +kernel
theorem dL_placesLeft_0 : decode cL_placesLeft 0 = .ok (.aload_n 0, 1) := by decide +kernel
theorem dL_placesLeft_1 : decode cL_placesLeft 1 = .ok (.iload_n 1, 1) := by decide +kernel
theorem dL_placesLeft_2 : decode cL_placesLeft 2 = .ok (.invokevirtual 80, 3) := by decide +kernel
theorem dL_placesLeft_5 : decode cL_placesLeft 5 = .ok (.ireturn, 1) := by decide +kernel
theorem dL_visitsTo_0 : decode cL_visitsTo 0 = .ok (.aload_n 0, 1) := by decide +kernel
theorem dL_visitsTo_1 : decode cL_visitsTo 1 = .ok (.iload_n 1, 1) := by decide +kernel
theorem dL_visitsTo_2 : decode cL_visitsTo 2 = .ok (.invokevirtual 83, 3) := by decide +kernel
theorem dL_visitsTo_5 : decode cL_visitsTo 5 = .ok (.ireturn, 1) := by decide +kernel
theorem dL_isInSeason_0 : decode cL_isInSeason 0 = .ok (.aload_n 0, 1) := by decide +kernel
theorem dL_isInSeason_1 : decode cL_isInSeason 1 = .ok (.iload_n 1, 1) := by decide +kernel
theorem dL_isInSeason_2 : decode cL_isInSeason 2 = .ok (.invokevirtual 86, 3) := by decide +kernel
theorem dL_isInSeason_5 : decode cL_isInSeason 5 = .ok (.ireturn, 1) := by decide +kernel
theorem dL_firstDay_0 : decode cL_firstDay 0 = .ok (.aload_n 0, 1) := by decide +kernel
theorem dL_firstDay_1 : decode cL_firstDay 1 = .ok (.iload_n 1, 1) := by decide +kernel
theorem dL_firstDay_2 : decode cL_firstDay 2 = .ok (.invokevirtual 93, 3) := by decide +kernel
theorem dL_firstDay_5 : decode cL_firstDay 5 = .ok (.ireturn, 1) := by decide +kernel
theorem dL_lastDay_0 : decode cL_lastDay 0 = .ok (.aload_n 0, 1) := by decide +kernel
theorem dL_lastDay_1 : decode cL_lastDay 1 = .ok (.iload_n 1, 1) := by decide +kernel
theorem dL_lastDay_2 : decode cL_lastDay 2 = .ok (.invokevirtual 96, 3) := by decide +kernel
theorem dL_lastDay_5 : decode cL_lastDay 5 = .ok (.ireturn, 1) := by decide +kernel
theorem dL_priceOf_0 : decode cL_priceOf 0 = .ok (.aload_n 0, 1) := by decide +kernel
theorem dL_priceOf_1 : decode cL_priceOf 1 = .ok (.iload_n 1, 1) := by decide +kernel
theorem dL_priceOf_2 : decode cL_priceOf 2 = .ok (.invokevirtual 99, 3) := by decide +kernel
theorem dL_priceOf_5 : decode cL_priceOf 5 = .ok (.ireturn, 1) := by decide +kernel
theorem dL_cardOf_0 : decode cL_cardOf 0 = .ok (.aload_n 0, 1) := by decide +kernel
theorem dL_cardOf_1 : decode cL_cardOf 1 = .ok (.iload_n 1, 1) := by decide +kernel
theorem dL_cardOf_2 : decode cL_cardOf 2 = .ok (.invokevirtual 102, 3) := by decide +kernel
theorem dL_cardOf_5 : decode cL_cardOf 5 = .ok (.ireturn, 1) := by decide +kernel
theorem dL_usedDays_0 : decode cL_usedDays 0 = .ok (.aload_n 0, 1) := by decide +kernel
theorem dL_usedDays_1 : decode cL_usedDays 1 = .ok (.iload_n 1, 1) := by decide +kernel
theorem dL_usedDays_2 : decode cL_usedDays 2 = .ok (.invokevirtual 105, 3) := by decide +kernel
theorem dL_usedDays_5 : decode cL_usedDays 5 = .ok (.ireturn, 1) := by decide +kernel
theorem dL_visitsWith_0 : decode cL_visitsWith 0 = .ok (.aload_n 0, 1) := by decide +kernel
theorem dL_visitsWith_1 : decode cL_visitsWith 1 = .ok (.iload_n 1, 1) := by decide +kernel
theorem dL_visitsWith_2 : decode cL_visitsWith 2 = .ok (.invokevirtual 108, 3) := by decide +kernel
theorem dL_visitsWith_5 : decode cL_visitsWith 5 = .ok (.ireturn, 1) := by decide +kernel
theorem dL_refundOf_0 : decode cL_refundOf 0 = .ok (.aload_n 0, 1) := by decide +kernel
theorem dL_refundOf_1 : decode cL_refundOf 1 = .ok (.iload_n 1, 1) := by decide +kernel
theorem dL_refundOf_2 : decode cL_refundOf 2 = .ok (.invokevirtual 111, 3) := by decide +kernel
theorem dL_refundOf_5 : decode cL_refundOf 5 = .ok (.ireturn, 1) := by decide +kernel
theorem dL_owed_0 : decode cL_owed 0 = .ok (.aload_n 0, 1) := by decide +kernel
theorem dL_owed_1 : decode cL_owed 1 = .ok (.iload_n 1, 1) := by decide +kernel
theorem dL_owed_2 : decode cL_owed 2 = .ok (.invokevirtual 114, 3) := by decide +kernel
theorem dL_owed_5 : decode cL_owed 5 = .ok (.ireturn, 1) := by decide +kernel
theorem dL_ticksUntilReady_0 : decode cL_ticksUntilReady 0 = .ok (.aload_n 0, 1) := by decide +kernel
theorem dL_ticksUntilReady_1 : decode cL_ticksUntilReady 1 = .ok (.iload_n 1, 1) := by decide +kernel
theorem dL_ticksUntilReady_2 : decode cL_ticksUntilReady 2 = .ok (.invokevirtual 117, 3) := by decide +kernel
theorem dL_ticksUntilReady_5 : decode cL_ticksUntilReady 5 = .ok (.ireturn, 1) := by decide +kernel
theorem dL_isReturned_0 : decode cL_isReturned 0 = .ok (.aload_n 0, 1) := by decide +kernel
theorem dL_isReturned_1 : decode cL_isReturned 1 = .ok (.iload_n 1, 1) := by decide +kernel
theorem dL_isReturned_2 : decode cL_isReturned 2 = .ok (.invokevirtual 123, 3) := by decide +kernel
theorem dL_isReturned_5 : decode cL_isReturned 5 = .ok (.ireturn, 1) := by decide +kernel
theorem dL_passOf_0 : decode cL_passOf 0 = .ok (.aload_n 0, 1) := by decide +kernel
theorem dL_passOf_1 : decode cL_passOf 1 = .ok (.iload_n 1, 1) := by decide +kernel
theorem dL_passOf_2 : decode cL_passOf 2 = .ok (.invokevirtual 126, 3) := by decide +kernel
theorem dL_passOf_5 : decode cL_passOf 5 = .ok (.ireturn, 1) := by decide +kernel
theorem dL_isBlocked_0 : decode cL_isBlocked 0 = .ok (.aload_n 0, 1) := by decide +kernel
theorem dL_isBlocked_1 : decode cL_isBlocked 1 = .ok (.iload_n 1, 1) := by decide +kernel
theorem dL_isBlocked_2 : decode cL_isBlocked 2 = .ok (.invokevirtual 132, 3) := by decide +kernel
theorem dL_isBlocked_5 : decode cL_isBlocked 5 = .ok (.ireturn, 1) := by decide +kernel
theorem dL_whyRefused_0 : decode cL_whyRefused 0 = .ok (.aload_n 0, 1) := by decide +kernel
theorem dL_whyRefused_1 : decode cL_whyRefused 1 = .ok (.iload_n 1, 1) := by decide +kernel
theorem dL_whyRefused_2 : decode cL_whyRefused 2 = .ok (.iload_n 2, 1) := by decide +kernel
theorem dL_whyRefused_3 : decode cL_whyRefused 3 = .ok (.invokevirtual 135, 3) := by decide +kernel
theorem dL_whyRefused_6 : decode cL_whyRefused 6 = .ok (.ireturn, 1) := by decide +kernel
theorem dL_isSound_0 : decode cL_isSound 0 = .ok (.aload_n 0, 1) := by decide +kernel
theorem dL_isSound_1 : decode cL_isSound 1 = .ok (.invokevirtual 239, 3) := by decide +kernel
theorem dL_isSound_4 : decode cL_isSound 4 = .ok (.ifCond .eq 5, 3) := by decide +kernel
theorem dL_isSound_7 : decode cL_isSound 7 = .ok (.iconst 0, 1) := by decide +kernel
theorem dL_isSound_8 : decode cL_isSound 8 = .ok (.ireturn, 1) := by decide +kernel
theorem dL_isSound_9 : decode cL_isSound 9 = .ok (.iconst 0, 1) := by decide +kernel
theorem dL_isSound_10 : decode cL_isSound 10 = .ok (.istore_n 1, 1) := by decide +kernel
theorem dL_isSound_11 : decode cL_isSound 11 = .ok (.iconst 0, 1) := by decide +kernel
theorem dL_isSound_12 : decode cL_isSound 12 = .ok (.istore_n 2, 1) := by decide +kernel
theorem dL_isSound_13 : decode cL_isSound 13 = .ok (.iconst 0, 1) := by decide +kernel
theorem dL_isSound_14 : decode cL_isSound 14 = .ok (.istore_n 3, 1) := by decide +kernel
theorem dL_isSound_15 : decode cL_isSound 15 = .ok (.iload_n 3, 1) := by decide +kernel
theorem dL_isSound_16 : decode cL_isSound 16 = .ok (.aload_n 0, 1) := by decide +kernel
theorem dL_isSound_17 : decode cL_isSound 17 = .ok (.invokevirtual 188, 3) := by decide +kernel
theorem dL_isSound_20 : decode cL_isSound 20 = .ok (.if_icmp .ge 269, 3) := by decide +kernel
theorem dL_isSound_23 : decode cL_isSound 23 = .ok (.iload_n 1, 1) := by decide +kernel
theorem dL_isSound_24 : decode cL_isSound 24 = .ok (.aload_n 0, 1) := by decide +kernel
theorem dL_isSound_25 : decode cL_isSound 25 = .ok (.iload_n 3, 1) := by decide +kernel
theorem dL_isSound_26 : decode cL_isSound 26 = .ok (.invokestatic 242, 3) := by decide +kernel
theorem dL_isSound_29 : decode cL_isSound 29 = .ok (.iadd, 1) := by decide +kernel
theorem dL_isSound_30 : decode cL_isSound 30 = .ok (.istore_n 1, 1) := by decide +kernel
theorem dL_isSound_31 : decode cL_isSound 31 = .ok (.iconst 0, 1) := by decide +kernel
theorem dL_isSound_32 : decode cL_isSound 32 = .ok (.istore 4, 2) := by decide +kernel
theorem dL_isSound_34 : decode cL_isSound 34 = .ok (.iconst 0, 1) := by decide +kernel
theorem dL_isSound_35 : decode cL_isSound 35 = .ok (.istore 5, 2) := by decide +kernel
theorem dL_isSound_37 : decode cL_isSound 37 = .ok (.iload 5, 2) := by decide +kernel
theorem dL_isSound_39 : decode cL_isSound 39 = .ok (.aload_n 0, 1) := by decide +kernel
theorem dL_isSound_40 : decode cL_isSound 40 = .ok (.invokevirtual 194, 3) := by decide +kernel
theorem dL_isSound_43 : decode cL_isSound 43 = .ok (.if_icmp .ge 38, 3) := by decide +kernel
theorem dL_isSound_46 : decode cL_isSound 46 = .ok (.iload 4, 2) := by decide +kernel
theorem dL_isSound_48 : decode cL_isSound 48 = .ok (.aload_n 0, 1) := by decide +kernel
theorem dL_isSound_49 : decode cL_isSound 49 = .ok (.iload 5, 2) := by decide +kernel
theorem dL_isSound_51 : decode cL_isSound 51 = .ok (.invokestatic 244, 3) := by decide +kernel
theorem dL_isSound_54 : decode cL_isSound 54 = .ok (.iload_n 3, 1) := by decide +kernel
theorem dL_isSound_55 : decode cL_isSound 55 = .ok (.if_icmp .ne 16, 3) := by decide +kernel
theorem dL_isSound_58 : decode cL_isSound 58 = .ok (.aload_n 0, 1) := by decide +kernel
theorem dL_isSound_59 : decode cL_isSound 59 = .ok (.iload 5, 2) := by decide +kernel
theorem dL_isSound_61 : decode cL_isSound 61 = .ok (.invokestatic 246, 3) := by decide +kernel
theorem dL_isSound_64 : decode cL_isSound 64 = .ok (.ifCond .ne 7, 3) := by decide +kernel
theorem dL_isSound_67 : decode cL_isSound 67 = .ok (.iconst 1, 1) := by decide +kernel
theorem dL_isSound_68 : decode cL_isSound 68 = .ok (.goto 4, 3) := by decide +kernel
theorem dL_isSound_71 : decode cL_isSound 71 = .ok (.iconst 0, 1) := by decide +kernel
theorem dL_isSound_72 : decode cL_isSound 72 = .ok (.iadd, 1) := by decide +kernel
theorem dL_isSound_73 : decode cL_isSound 73 = .ok (.istore 4, 2) := by decide +kernel
theorem dL_isSound_75 : decode cL_isSound 75 = .ok (.iinc 5 1, 3) := by decide +kernel
theorem dL_isSound_78 : decode cL_isSound 78 = .ok (.goto (-41), 3) := by decide +kernel
theorem dL_isSound_81 : decode cL_isSound 81 = .ok (.aload_n 0, 1) := by decide +kernel
theorem dL_isSound_82 : decode cL_isSound 82 = .ok (.iload_n 3, 1) := by decide +kernel
theorem dL_isSound_83 : decode cL_isSound 83 = .ok (.invokestatic 249, 3) := by decide +kernel
theorem dL_isSound_86 : decode cL_isSound 86 = .ok (.istore 5, 2) := by decide +kernel
theorem dL_isSound_88 : decode cL_isSound 88 = .ok (.iload 4, 2) := by decide +kernel
theorem dL_isSound_90 : decode cL_isSound 90 = .ok (.iload 5, 2) := by decide +kernel
theorem dL_isSound_92 : decode cL_isSound 92 = .ok (.iconst (-1), 1) := by decide +kernel
theorem dL_isSound_93 : decode cL_isSound 93 = .ok (.if_icmp .ne 7, 3) := by decide +kernel
theorem dL_isSound_96 : decode cL_isSound 96 = .ok (.iconst 0, 1) := by decide +kernel
theorem dL_isSound_97 : decode cL_isSound 97 = .ok (.goto 4, 3) := by decide +kernel
theorem dL_isSound_100 : decode cL_isSound 100 = .ok (.iconst 1, 1) := by decide +kernel
theorem dL_isSound_101 : decode cL_isSound 101 = .ok (.if_icmp .ne 28, 3) := by decide +kernel
theorem dL_isSound_104 : decode cL_isSound 104 = .ok (.iload 5, 2) := by decide +kernel
theorem dL_isSound_106 : decode cL_isSound 106 = .ok (.iconst (-1), 1) := by decide +kernel
theorem dL_isSound_107 : decode cL_isSound 107 = .ok (.if_icmp .eq 24, 3) := by decide +kernel
theorem dL_isSound_110 : decode cL_isSound 110 = .ok (.aload_n 0, 1) := by decide +kernel
theorem dL_isSound_111 : decode cL_isSound 111 = .ok (.iload 5, 2) := by decide +kernel
theorem dL_isSound_113 : decode cL_isSound 113 = .ok (.invokestatic 244, 3) := by decide +kernel
theorem dL_isSound_116 : decode cL_isSound 116 = .ok (.iload_n 3, 1) := by decide +kernel
theorem dL_isSound_117 : decode cL_isSound 117 = .ok (.if_icmp .ne 12, 3) := by decide +kernel
theorem dL_isSound_120 : decode cL_isSound 120 = .ok (.aload_n 0, 1) := by decide +kernel
theorem dL_isSound_121 : decode cL_isSound 121 = .ok (.iload 5, 2) := by decide +kernel
theorem dL_isSound_123 : decode cL_isSound 123 = .ok (.invokestatic 246, 3) := by decide +kernel
theorem dL_isSound_126 : decode cL_isSound 126 = .ok (.ifCond .eq 5, 3) := by decide +kernel
theorem dL_isSound_129 : decode cL_isSound 129 = .ok (.iconst 0, 1) := by decide +kernel
theorem dL_isSound_130 : decode cL_isSound 130 = .ok (.ireturn, 1) := by decide +kernel
theorem dL_isSound_131 : decode cL_isSound 131 = .ok (.aload_n 0, 1) := by decide +kernel
theorem dL_isSound_132 : decode cL_isSound 132 = .ok (.iload_n 3, 1) := by decide +kernel
theorem dL_isSound_133 : decode cL_isSound 133 = .ok (.invokestatic 251, 3) := by decide +kernel
theorem dL_isSound_136 : decode cL_isSound 136 = .ok (.ifCond .eq 19, 3) := by decide +kernel
theorem dL_isSound_139 : decode cL_isSound 139 = .ok (.iload 5, 2) := by decide +kernel
theorem dL_isSound_141 : decode cL_isSound 141 = .ok (.iconst (-1), 1) := by decide +kernel
theorem dL_isSound_142 : decode cL_isSound 142 = .ok (.if_icmp .ne 11, 3) := by decide +kernel
theorem dL_isSound_145 : decode cL_isSound 145 = .ok (.aload_n 0, 1) := by decide +kernel
theorem dL_isSound_146 : decode cL_isSound 146 = .ok (.iload_n 3, 1) := by decide +kernel
theorem dL_isSound_147 : decode cL_isSound 147 = .ok (.invokestatic 253, 3) := by decide +kernel
theorem dL_isSound_150 : decode cL_isSound 150 = .ok (.ifCond .eq 5, 3) := by decide +kernel
theorem dL_isSound_153 : decode cL_isSound 153 = .ok (.iconst 0, 1) := by decide +kernel
theorem dL_isSound_154 : decode cL_isSound 154 = .ok (.ireturn, 1) := by decide +kernel
theorem dL_isSound_155 : decode cL_isSound 155 = .ok (.aload_n 0, 1) := by decide +kernel
theorem dL_isSound_156 : decode cL_isSound 156 = .ok (.iload_n 3, 1) := by decide +kernel
theorem dL_isSound_157 : decode cL_isSound 157 = .ok (.invokestatic 255, 3) := by decide +kernel
theorem dL_isSound_160 : decode cL_isSound 160 = .ok (.aload_n 0, 1) := by decide +kernel
theorem dL_isSound_161 : decode cL_isSound 161 = .ok (.iload_n 3, 1) := by decide +kernel
theorem dL_isSound_162 : decode cL_isSound 162 = .ok (.invokestatic 257, 3) := by decide +kernel
theorem dL_isSound_165 : decode cL_isSound 165 = .ok (.isub, 1) := by decide +kernel
theorem dL_isSound_166 : decode cL_isSound 166 = .ok (.iconst 1, 1) := by decide +kernel
theorem dL_isSound_167 : decode cL_isSound 167 = .ok (.iadd, 1) := by decide +kernel
theorem dL_isSound_168 : decode cL_isSound 168 = .ok (.istore 6, 2) := by decide +kernel
theorem dL_isSound_170 : decode cL_isSound 170 = .ok (.iload 6, 2) := by decide +kernel
theorem dL_isSound_172 : decode cL_isSound 172 = .ok (.iconst 1, 1) := by decide +kernel
theorem dL_isSound_173 : decode cL_isSound 173 = .ok (.if_icmp .lt 62, 3) := by decide +kernel
theorem dL_isSound_176 : decode cL_isSound 176 = .ok (.iload 6, 2) := by decide +kernel
theorem dL_isSound_178 : decode cL_isSound 178 = .ok (.bipush 14, 2) := by decide +kernel
theorem dL_isSound_180 : decode cL_isSound 180 = .ok (.if_icmp .gt 55, 3) := by decide +kernel
theorem dL_isSound_183 : decode cL_isSound 183 = .ok (.aload_n 0, 1) := by decide +kernel
theorem dL_isSound_184 : decode cL_isSound 184 = .ok (.iload_n 3, 1) := by decide +kernel
theorem dL_isSound_185 : decode cL_isSound 185 = .ok (.invokestatic 259, 3) := by decide +kernel
theorem dL_isSound_188 : decode cL_isSound 188 = .ok (.iload 6, 2) := by decide +kernel
theorem dL_isSound_190 : decode cL_isSound 190 = .ok (.if_icmp .gt 45, 3) := by decide +kernel
theorem dL_isSound_193 : decode cL_isSound 193 = .ok (.aload_n 0, 1) := by decide +kernel
theorem dL_isSound_194 : decode cL_isSound 194 = .ok (.iload_n 3, 1) := by decide +kernel
theorem dL_isSound_195 : decode cL_isSound 195 = .ok (.invokestatic 259, 3) := by decide +kernel
theorem dL_isSound_198 : decode cL_isSound 198 = .ok (.aload_n 0, 1) := by decide +kernel
theorem dL_isSound_199 : decode cL_isSound 199 = .ok (.iload_n 3, 1) := by decide +kernel
theorem dL_isSound_200 : decode cL_isSound 200 = .ok (.invokestatic 242, 3) := by decide +kernel
theorem dL_isSound_203 : decode cL_isSound 203 = .ok (.if_icmp .gt 32, 3) := by decide +kernel
theorem dL_isSound_206 : decode cL_isSound 206 = .ok (.aload_n 0, 1) := by decide +kernel
theorem dL_isSound_207 : decode cL_isSound 207 = .ok (.iload_n 3, 1) := by decide +kernel
theorem dL_isSound_208 : decode cL_isSound 208 = .ok (.invokestatic 259, 3) := by decide +kernel
theorem dL_isSound_211 : decode cL_isSound 211 = .ok (.ifCond .ne 7, 3) := by decide +kernel
theorem dL_isSound_214 : decode cL_isSound 214 = .ok (.iconst 1, 1) := by decide +kernel
theorem dL_isSound_215 : decode cL_isSound 215 = .ok (.goto 4, 3) := by decide +kernel
theorem dL_isSound_218 : decode cL_isSound 218 = .ok (.iconst 0, 1) := by decide +kernel
theorem dL_isSound_219 : decode cL_isSound 219 = .ok (.aload_n 0, 1) := by decide +kernel
theorem dL_isSound_220 : decode cL_isSound 220 = .ok (.iload_n 3, 1) := by decide +kernel
theorem dL_isSound_221 : decode cL_isSound 221 = .ok (.invokestatic 242, 3) := by decide +kernel
theorem dL_isSound_224 : decode cL_isSound 224 = .ok (.ifCond .ne 7, 3) := by decide +kernel
theorem dL_isSound_227 : decode cL_isSound 227 = .ok (.iconst 1, 1) := by decide +kernel
theorem dL_isSound_228 : decode cL_isSound 228 = .ok (.goto 4, 3) := by decide +kernel
theorem dL_isSound_231 : decode cL_isSound 231 = .ok (.iconst 0, 1) := by decide +kernel
theorem dL_isSound_232 : decode cL_isSound 232 = .ok (.if_icmp .eq 5, 3) := by decide +kernel
theorem dL_isSound_235 : decode cL_isSound 235 = .ok (.iconst 0, 1) := by decide +kernel
theorem dL_isSound_236 : decode cL_isSound 236 = .ok (.ireturn, 1) := by decide +kernel
theorem dL_isSound_237 : decode cL_isSound 237 = .ok (.aload_n 0, 1) := by decide +kernel
theorem dL_isSound_238 : decode cL_isSound 238 = .ok (.iload_n 3, 1) := by decide +kernel
theorem dL_isSound_239 : decode cL_isSound 239 = .ok (.invokestatic 261, 3) := by decide +kernel
theorem dL_isSound_242 : decode cL_isSound 242 = .ok (.ifCond .lt 34, 3) := by decide +kernel
theorem dL_isSound_245 : decode cL_isSound 245 = .ok (.aload_n 0, 1) := by decide +kernel
theorem dL_isSound_246 : decode cL_isSound 246 = .ok (.iload_n 3, 1) := by decide +kernel
theorem dL_isSound_247 : decode cL_isSound 247 = .ok (.invokestatic 253, 3) := by decide +kernel
theorem dL_isSound_250 : decode cL_isSound 250 = .ok (.ifCond .lt 26, 3) := by decide +kernel
theorem dL_isSound_253 : decode cL_isSound 253 = .ok (.iconst 2, 1) := by decide +kernel
theorem dL_isSound_254 : decode cL_isSound 254 = .ok (.aload_n 0, 1) := by decide +kernel
theorem dL_isSound_255 : decode cL_isSound 255 = .ok (.iload_n 3, 1) := by decide +kernel
theorem dL_isSound_256 : decode cL_isSound 256 = .ok (.invokestatic 253, 3) := by decide +kernel
theorem dL_isSound_259 : decode cL_isSound 259 = .ok (.imul, 1) := by decide +kernel
theorem dL_isSound_260 : decode cL_isSound 260 = .ok (.aload_n 0, 1) := by decide +kernel
theorem dL_isSound_261 : decode cL_isSound 261 = .ok (.iload_n 3, 1) := by decide +kernel
theorem dL_isSound_262 : decode cL_isSound 262 = .ok (.invokestatic 263, 3) := by decide +kernel
theorem dL_isSound_265 : decode cL_isSound 265 = .ok (.if_icmp .gt 11, 3) := by decide +kernel
theorem dL_isSound_268 : decode cL_isSound 268 = .ok (.aload_n 0, 1) := by decide +kernel
theorem dL_isSound_269 : decode cL_isSound 269 = .ok (.iload_n 3, 1) := by decide +kernel
theorem dL_isSound_270 : decode cL_isSound 270 = .ok (.invokestatic 265, 3) := by decide +kernel
theorem dL_isSound_273 : decode cL_isSound 273 = .ok (.ifCond .ge 5, 3) := by decide +kernel
theorem dL_isSound_276 : decode cL_isSound 276 = .ok (.iconst 0, 1) := by decide +kernel
theorem dL_isSound_277 : decode cL_isSound 277 = .ok (.ireturn, 1) := by decide +kernel
theorem dL_isSound_278 : decode cL_isSound 278 = .ok (.iload_n 2, 1) := by decide +kernel
theorem dL_isSound_279 : decode cL_isSound 279 = .ok (.iload 4, 2) := by decide +kernel
theorem dL_isSound_281 : decode cL_isSound 281 = .ok (.iadd, 1) := by decide +kernel
theorem dL_isSound_282 : decode cL_isSound 282 = .ok (.istore_n 2, 1) := by decide +kernel
theorem dL_isSound_283 : decode cL_isSound 283 = .ok (.iinc 3 1, 3) := by decide +kernel
theorem dL_isSound_286 : decode cL_isSound 286 = .ok (.goto (-271), 3) := by decide +kernel
theorem dL_isSound_289 : decode cL_isSound 289 = .ok (.iconst 0, 1) := by decide +kernel
theorem dL_isSound_290 : decode cL_isSound 290 = .ok (.istore_n 3, 1) := by decide +kernel
theorem dL_isSound_291 : decode cL_isSound 291 = .ok (.iload_n 3, 1) := by decide +kernel
theorem dL_isSound_292 : decode cL_isSound 292 = .ok (.aload_n 0, 1) := by decide +kernel
theorem dL_isSound_293 : decode cL_isSound 293 = .ok (.invokevirtual 197, 3) := by decide +kernel
theorem dL_isSound_296 : decode cL_isSound 296 = .ok (.if_icmp .ge 45, 3) := by decide +kernel
theorem dL_isSound_299 : decode cL_isSound 299 = .ok (.iload_n 1, 1) := by decide +kernel
theorem dL_isSound_300 : decode cL_isSound 300 = .ok (.aload_n 0, 1) := by decide +kernel
theorem dL_isSound_301 : decode cL_isSound 301 = .ok (.iload_n 3, 1) := by decide +kernel
theorem dL_isSound_302 : decode cL_isSound 302 = .ok (.invokestatic 267, 3) := by decide +kernel
theorem dL_isSound_305 : decode cL_isSound 305 = .ok (.isub, 1) := by decide +kernel
theorem dL_isSound_306 : decode cL_isSound 306 = .ok (.istore_n 1, 1) := by decide +kernel
theorem dL_isSound_307 : decode cL_isSound 307 = .ok (.aload_n 0, 1) := by decide +kernel
theorem dL_isSound_308 : decode cL_isSound 308 = .ok (.iload_n 3, 1) := by decide +kernel
theorem dL_isSound_309 : decode cL_isSound 309 = .ok (.invokestatic 269, 3) := by decide +kernel
theorem dL_isSound_312 : decode cL_isSound 312 = .ok (.ifCond .lt 21, 3) := by decide +kernel
theorem dL_isSound_315 : decode cL_isSound 315 = .ok (.aload_n 0, 1) := by decide +kernel
theorem dL_isSound_316 : decode cL_isSound 316 = .ok (.iload_n 3, 1) := by decide +kernel
theorem dL_isSound_317 : decode cL_isSound 317 = .ok (.invokestatic 269, 3) := by decide +kernel
theorem dL_isSound_320 : decode cL_isSound 320 = .ok (.bipush 50, 2) := by decide +kernel
theorem dL_isSound_322 : decode cL_isSound 322 = .ok (.if_icmp .gt 11, 3) := by decide +kernel
theorem dL_isSound_325 : decode cL_isSound 325 = .ok (.aload_n 0, 1) := by decide +kernel
theorem dL_isSound_326 : decode cL_isSound 326 = .ok (.iload_n 3, 1) := by decide +kernel
theorem dL_isSound_327 : decode cL_isSound 327 = .ok (.invokestatic 271, 3) := by decide +kernel
theorem dL_isSound_330 : decode cL_isSound 330 = .ok (.ifCond .ge 5, 3) := by decide +kernel
theorem dL_isSound_333 : decode cL_isSound 333 = .ok (.iconst 0, 1) := by decide +kernel
theorem dL_isSound_334 : decode cL_isSound 334 = .ok (.ireturn, 1) := by decide +kernel
theorem dL_isSound_335 : decode cL_isSound 335 = .ok (.iinc 3 1, 3) := by decide +kernel
theorem dL_isSound_338 : decode cL_isSound 338 = .ok (.goto (-47), 3) := by decide +kernel
theorem dL_isSound_341 : decode cL_isSound 341 = .ok (.iload_n 1, 1) := by decide +kernel
theorem dL_isSound_342 : decode cL_isSound 342 = .ok (.ifCond .ne 51, 3) := by decide +kernel
theorem dL_isSound_345 : decode cL_isSound 345 = .ok (.iload_n 2, 1) := by decide +kernel
theorem dL_isSound_346 : decode cL_isSound 346 = .ok (.aload_n 0, 1) := by decide +kernel
theorem dL_isSound_347 : decode cL_isSound 347 = .ok (.invokevirtual 194, 3) := by decide +kernel
theorem dL_isSound_350 : decode cL_isSound 350 = .ok (.if_icmp .gt 43, 3) := by decide +kernel
theorem dL_isSound_353 : decode cL_isSound 353 = .ok (.aload_n 0, 1) := by decide +kernel
theorem dL_isSound_354 : decode cL_isSound 354 = .ok (.invokevirtual 273, 3) := by decide +kernel
theorem dL_isSound_357 : decode cL_isSound 357 = .ok (.ifCond .lt 36, 3) := by decide +kernel
theorem dL_isSound_360 : decode cL_isSound 360 = .ok (.aload_n 0, 1) := by decide +kernel
theorem dL_isSound_361 : decode cL_isSound 361 = .ok (.invokevirtual 276, 3) := by decide +kernel
theorem dL_isSound_364 : decode cL_isSound 364 = .ok (.ifCond .lt 29, 3) := by decide +kernel
theorem dL_isSound_367 : decode cL_isSound 367 = .ok (.aload_n 0, 1) := by decide +kernel
theorem dL_isSound_368 : decode cL_isSound 368 = .ok (.invokevirtual 279, 3) := by decide +kernel
theorem dL_isSound_371 : decode cL_isSound 371 = .ok (.aload_n 0, 1) := by decide +kernel
theorem dL_isSound_372 : decode cL_isSound 372 = .ok (.invokevirtual 282, 3) := by decide +kernel
theorem dL_isSound_375 : decode cL_isSound 375 = .ok (.ifCond .eq 7, 3) := by decide +kernel
theorem dL_isSound_378 : decode cL_isSound 378 = .ok (.iconst 0, 1) := by decide +kernel
theorem dL_isSound_379 : decode cL_isSound 379 = .ok (.goto 7, 3) := by decide +kernel
theorem dL_isSound_382 : decode cL_isSound 382 = .ok (.aload_n 0, 1) := by decide +kernel
theorem dL_isSound_383 : decode cL_isSound 383 = .ok (.invokevirtual 279, 3) := by decide +kernel
theorem dL_isSound_386 : decode cL_isSound 386 = .ok (.if_icmp .ne 7, 3) := by decide +kernel
theorem dL_isSound_389 : decode cL_isSound 389 = .ok (.iconst 1, 1) := by decide +kernel
theorem dL_isSound_390 : decode cL_isSound 390 = .ok (.goto 4, 3) := by decide +kernel
theorem dL_isSound_393 : decode cL_isSound 393 = .ok (.iconst 0, 1) := by decide +kernel
theorem dL_isSound_394 : decode cL_isSound 394 = .ok (.ireturn, 1) := by decide +kernel
theorem dL_isGuarded_0 : decode cL_isGuarded 0 = .ok (.aload_n 0, 1) := by decide +kernel
theorem dL_isGuarded_1 : decode cL_isGuarded 1 = .ok (.iload_n 1, 1) := by decide +kernel
theorem dL_isGuarded_2 : decode cL_isGuarded 2 = .ok (.iload_n 2, 1) := by decide +kernel
theorem dL_isGuarded_3 : decode cL_isGuarded 3 = .ok (.invokestatic 286, 3) := by decide +kernel
theorem dL_isGuarded_6 : decode cL_isGuarded 6 = .ok (.istore_n 3, 1) := by decide +kernel
theorem dL_isGuarded_7 : decode cL_isGuarded 7 = .ok (.aload_n 0, 1) := by decide +kernel
theorem dL_isGuarded_8 : decode cL_isGuarded 8 = .ok (.iload_n 1, 1) := by decide +kernel
theorem dL_isGuarded_9 : decode cL_isGuarded 9 = .ok (.invokestatic 244, 3) := by decide +kernel
theorem dL_isGuarded_12 : decode cL_isGuarded 12 = .ok (.istore 4, 2) := by decide +kernel
theorem dL_isGuarded_14 : decode cL_isGuarded 14 = .ok (.aload_n 0, 1) := by decide +kernel
theorem dL_isGuarded_15 : decode cL_isGuarded 15 = .ok (.iload 4, 2) := by decide +kernel
theorem dL_isGuarded_17 : decode cL_isGuarded 17 = .ok (.invokestatic 242, 3) := by decide +kernel
theorem dL_isGuarded_20 : decode cL_isGuarded 20 = .ok (.istore 5, 2) := by decide +kernel
theorem dL_isGuarded_22 : decode cL_isGuarded 22 = .ok (.aload_n 0, 1) := by decide +kernel
theorem dL_isGuarded_23 : decode cL_isGuarded 23 = .ok (.iload_n 2, 1) := by decide +kernel
theorem dL_isGuarded_24 : decode cL_isGuarded 24 = .ok (.invokestatic 271, 3) := by decide +kernel
theorem dL_isGuarded_27 : decode cL_isGuarded 27 = .ok (.istore 6, 2) := by decide +kernel
theorem dL_isGuarded_29 : decode cL_isGuarded 29 = .ok (.aload_n 0, 1) := by decide +kernel
theorem dL_isGuarded_30 : decode cL_isGuarded 30 = .ok (.invokevirtual 288, 3) := by decide +kernel
theorem dL_isGuarded_33 : decode cL_isGuarded 33 = .ok (.istore 7, 2) := by decide +kernel
theorem dL_isGuarded_35 : decode cL_isGuarded 35 = .ok (.aload_n 0, 1) := by decide +kernel
theorem dL_isGuarded_36 : decode cL_isGuarded 36 = .ok (.iload_n 1, 1) := by decide +kernel
theorem dL_isGuarded_37 : decode cL_isGuarded 37 = .ok (.iload_n 2, 1) := by decide +kernel
theorem dL_isGuarded_38 : decode cL_isGuarded 38 = .ok (.invokestatic 206, 3) := by decide +kernel
theorem dL_isGuarded_41 : decode cL_isGuarded 41 = .ok (.istore 8, 2) := by decide +kernel
theorem dL_isGuarded_43 : decode cL_isGuarded 43 = .ok (.iload 8, 2) := by decide +kernel
theorem dL_isGuarded_45 : decode cL_isGuarded 45 = .ok (.iload_n 3, 1) := by decide +kernel
theorem dL_isGuarded_46 : decode cL_isGuarded 46 = .ok (.if_icmp .ne 71, 3) := by decide +kernel
theorem dL_isGuarded_49 : decode cL_isGuarded 49 = .ok (.aload_n 0, 1) := by decide +kernel
theorem dL_isGuarded_50 : decode cL_isGuarded 50 = .ok (.iload 4, 2) := by decide +kernel
theorem dL_isGuarded_52 : decode cL_isGuarded 52 = .ok (.invokestatic 242, 3) := by decide +kernel
theorem dL_isGuarded_55 : decode cL_isGuarded 55 = .ok (.iload_n 3, 1) := by decide +kernel
theorem dL_isGuarded_56 : decode cL_isGuarded 56 = .ok (.ifCond .ne 10, 3) := by decide +kernel
theorem dL_isGuarded_59 : decode cL_isGuarded 59 = .ok (.iload 5, 2) := by decide +kernel
theorem dL_isGuarded_61 : decode cL_isGuarded 61 = .ok (.iconst 1, 1) := by decide +kernel
theorem dL_isGuarded_62 : decode cL_isGuarded 62 = .ok (.iadd, 1) := by decide +kernel
theorem dL_isGuarded_63 : decode cL_isGuarded 63 = .ok (.goto 5, 3) := by decide +kernel
theorem dL_isGuarded_66 : decode cL_isGuarded 66 = .ok (.iload 5, 2) := by decide +kernel
theorem dL_isGuarded_68 : decode cL_isGuarded 68 = .ok (.if_icmp .ne 49, 3) := by decide +kernel
theorem dL_isGuarded_71 : decode cL_isGuarded 71 = .ok (.aload_n 0, 1) := by decide +kernel
theorem dL_isGuarded_72 : decode cL_isGuarded 72 = .ok (.iload_n 2, 1) := by decide +kernel
theorem dL_isGuarded_73 : decode cL_isGuarded 73 = .ok (.invokestatic 271, 3) := by decide +kernel
theorem dL_isGuarded_76 : decode cL_isGuarded 76 = .ok (.iload_n 3, 1) := by decide +kernel
theorem dL_isGuarded_77 : decode cL_isGuarded 77 = .ok (.ifCond .ne 10, 3) := by decide +kernel
theorem dL_isGuarded_80 : decode cL_isGuarded 80 = .ok (.iload 6, 2) := by decide +kernel
theorem dL_isGuarded_82 : decode cL_isGuarded 82 = .ok (.iconst 1, 1) := by decide +kernel
theorem dL_isGuarded_83 : decode cL_isGuarded 83 = .ok (.isub, 1) := by decide +kernel
theorem dL_isGuarded_84 : decode cL_isGuarded 84 = .ok (.goto 5, 3) := by decide +kernel
theorem dL_isGuarded_87 : decode cL_isGuarded 87 = .ok (.iload 6, 2) := by decide +kernel
theorem dL_isGuarded_89 : decode cL_isGuarded 89 = .ok (.if_icmp .ne 28, 3) := by decide +kernel
theorem dL_isGuarded_92 : decode cL_isGuarded 92 = .ok (.aload_n 0, 1) := by decide +kernel
theorem dL_isGuarded_93 : decode cL_isGuarded 93 = .ok (.invokevirtual 288, 3) := by decide +kernel
theorem dL_isGuarded_96 : decode cL_isGuarded 96 = .ok (.iload_n 3, 1) := by decide +kernel
theorem dL_isGuarded_97 : decode cL_isGuarded 97 = .ok (.iconst 2, 1) := by decide +kernel
theorem dL_isGuarded_98 : decode cL_isGuarded 98 = .ok (.if_icmp .ne 10, 3) := by decide +kernel
theorem dL_isGuarded_101 : decode cL_isGuarded 101 = .ok (.iload 7, 2) := by decide +kernel
theorem dL_isGuarded_103 : decode cL_isGuarded 103 = .ok (.iconst 1, 1) := by decide +kernel
theorem dL_isGuarded_104 : decode cL_isGuarded 104 = .ok (.iadd, 1) := by decide +kernel
theorem dL_isGuarded_105 : decode cL_isGuarded 105 = .ok (.goto 5, 3) := by decide +kernel
theorem dL_isGuarded_108 : decode cL_isGuarded 108 = .ok (.iload 7, 2) := by decide +kernel
theorem dL_isGuarded_110 : decode cL_isGuarded 110 = .ok (.if_icmp .ne 7, 3) := by decide +kernel
theorem dL_isGuarded_113 : decode cL_isGuarded 113 = .ok (.iconst 1, 1) := by decide +kernel
theorem dL_isGuarded_114 : decode cL_isGuarded 114 = .ok (.goto 4, 3) := by decide +kernel
theorem dL_isGuarded_117 : decode cL_isGuarded 117 = .ok (.iconst 0, 1) := by decide +kernel
theorem dL_isGuarded_118 : decode cL_isGuarded 118 = .ok (.istore 9, 2) := by decide +kernel
theorem dL_isGuarded_120 : decode cL_isGuarded 120 = .ok (.iload_n 3, 1) := by decide +kernel
theorem dL_isGuarded_121 : decode cL_isGuarded 121 = .ok (.ifCond .ne 65, 3) := by decide +kernel
theorem dL_isGuarded_124 : decode cL_isGuarded 124 = .ok (.iload 9, 2) := by decide +kernel
theorem dL_isGuarded_126 : decode cL_isGuarded 126 = .ok (.aload_n 0, 1) := by decide +kernel
theorem dL_isGuarded_127 : decode cL_isGuarded 127 = .ok (.invokevirtual 282, 3) := by decide +kernel
theorem dL_isGuarded_130 : decode cL_isGuarded 130 = .ok (.ifCond .eq 52, 3) := by decide +kernel
theorem dL_isGuarded_133 : decode cL_isGuarded 133 = .ok (.aload_n 0, 1) := by decide +kernel
theorem dL_isGuarded_134 : decode cL_isGuarded 134 = .ok (.iload_n 1, 1) := by decide +kernel
theorem dL_isGuarded_135 : decode cL_isGuarded 135 = .ok (.invokestatic 246, 3) := by decide +kernel
theorem dL_isGuarded_138 : decode cL_isGuarded 138 = .ok (.ifCond .ne 44, 3) := by decide +kernel
theorem dL_isGuarded_141 : decode cL_isGuarded 141 = .ok (.aload_n 0, 1) := by decide +kernel
theorem dL_isGuarded_142 : decode cL_isGuarded 142 = .ok (.invokevirtual 200, 3) := by decide +kernel
theorem dL_isGuarded_145 : decode cL_isGuarded 145 = .ok (.aload_n 0, 1) := by decide +kernel
theorem dL_isGuarded_146 : decode cL_isGuarded 146 = .ok (.iload 4, 2) := by decide +kernel
theorem dL_isGuarded_148 : decode cL_isGuarded 148 = .ok (.invokestatic 257, 3) := by decide +kernel
theorem dL_isGuarded_151 : decode cL_isGuarded 151 = .ok (.if_icmp .lt 31, 3) := by decide +kernel
theorem dL_isGuarded_154 : decode cL_isGuarded 154 = .ok (.aload_n 0, 1) := by decide +kernel
theorem dL_isGuarded_155 : decode cL_isGuarded 155 = .ok (.invokevirtual 200, 3) := by decide +kernel
theorem dL_isGuarded_158 : decode cL_isGuarded 158 = .ok (.aload_n 0, 1) := by decide +kernel
theorem dL_isGuarded_159 : decode cL_isGuarded 159 = .ok (.iload 4, 2) := by decide +kernel
theorem dL_isGuarded_161 : decode cL_isGuarded 161 = .ok (.invokestatic 255, 3) := by decide +kernel
theorem dL_isGuarded_164 : decode cL_isGuarded 164 = .ok (.if_icmp .gt 18, 3) := by decide +kernel
theorem dL_isGuarded_167 : decode cL_isGuarded 167 = .ok (.aload_n 0, 1) := by decide +kernel
theorem dL_isGuarded_168 : decode cL_isGuarded 168 = .ok (.iload 4, 2) := by decide +kernel
theorem dL_isGuarded_170 : decode cL_isGuarded 170 = .ok (.invokestatic 261, 3) := by decide +kernel
theorem dL_isGuarded_173 : decode cL_isGuarded 173 = .ok (.bipush 30, 2) := by decide +kernel
theorem dL_isGuarded_175 : decode cL_isGuarded 175 = .ok (.if_icmp .gt 7, 3) := by decide +kernel
theorem dL_isGuarded_178 : decode cL_isGuarded 178 = .ok (.iconst 1, 1) := by decide +kernel
theorem dL_isGuarded_179 : decode cL_isGuarded 179 = .ok (.goto 4, 3) := by decide +kernel
theorem dL_isGuarded_182 : decode cL_isGuarded 182 = .ok (.iconst 0, 1) := by decide +kernel
theorem dL_isGuarded_183 : decode cL_isGuarded 183 = .ok (.iand, 1) := by decide +kernel
theorem dL_isGuarded_184 : decode cL_isGuarded 184 = .ok (.istore 9, 2) := by decide +kernel
theorem dL_isGuarded_186 : decode cL_isGuarded 186 = .ok (.aload_n 0, 1) := by decide +kernel
theorem dL_isGuarded_187 : decode cL_isGuarded 187 = .ok (.invokevirtual 291, 3) := by decide +kernel
theorem dL_isGuarded_190 : decode cL_isGuarded 190 = .ok (.pop, 1) := by decide +kernel
theorem dL_isGuarded_191 : decode cL_isGuarded 191 = .ok (.iload 9, 2) := by decide +kernel
theorem dL_isGuarded_193 : decode cL_isGuarded 193 = .ok (.ifCond .eq 18, 3) := by decide +kernel
theorem dL_isGuarded_196 : decode cL_isGuarded 196 = .ok (.aload_n 0, 1) := by decide +kernel
theorem dL_isGuarded_197 : decode cL_isGuarded 197 = .ok (.iload 4, 2) := by decide +kernel
theorem dL_isGuarded_199 : decode cL_isGuarded 199 = .ok (.invokestatic 242, 3) := by decide +kernel
theorem dL_isGuarded_202 : decode cL_isGuarded 202 = .ok (.iload 5, 2) := by decide +kernel
theorem dL_isGuarded_204 : decode cL_isGuarded 204 = .ok (.if_icmp .ne 7, 3) := by decide +kernel
theorem dL_isGuarded_207 : decode cL_isGuarded 207 = .ok (.iconst 1, 1) := by decide +kernel
theorem dL_isGuarded_208 : decode cL_isGuarded 208 = .ok (.goto 4, 3) := by decide +kernel
theorem dL_isGuarded_211 : decode cL_isGuarded 211 = .ok (.iconst 0, 1) := by decide +kernel
theorem dL_isGuarded_212 : decode cL_isGuarded 212 = .ok (.ireturn, 1) := by decide +kernel
theorem dL_seen_0 : decode cL_seen 0 = .ok (.aload_n 0, 1) := by decide +kernel
theorem dL_seen_1 : decode cL_seen 1 = .ok (.invokevirtual 294, 3) := by decide +kernel
theorem dL_seen_4 : decode cL_seen 4 = .ok (.i2l, 1) := by decide +kernel
theorem dL_seen_5 : decode cL_seen 5 = .ok (.ldc2_w 297, 3) := by decide +kernel
theorem dL_seen_8 : decode cL_seen 8 = .ok (.aload_n 0, 1) := by decide +kernel
theorem dL_seen_9 : decode cL_seen 9 = .ok (.invokevirtual 299, 3) := by decide +kernel
theorem dL_seen_12 : decode cL_seen 12 = .ok (.i2l, 1) := by decide +kernel
theorem dL_seen_13 : decode cL_seen 13 = .ok (.lmul, 1) := by decide +kernel
theorem dL_seen_14 : decode cL_seen 14 = .ok (.ladd, 1) := by decide +kernel
theorem dL_seen_15 : decode cL_seen 15 = .ok (.ldc2_w 302, 3) := by decide +kernel
theorem dL_seen_18 : decode cL_seen 18 = .ok (.aload_n 0, 1) := by decide +kernel
theorem dL_seen_19 : decode cL_seen 19 = .ok (.invokevirtual 304, 3) := by decide +kernel
theorem dL_seen_22 : decode cL_seen 22 = .ok (.i2l, 1) := by decide +kernel
theorem dL_seen_23 : decode cL_seen 23 = .ok (.lmul, 1) := by decide +kernel
theorem dL_seen_24 : decode cL_seen 24 = .ok (.ladd, 1) := by decide +kernel
theorem dL_seen_25 : decode cL_seen 25 = .ok (.aload_n 0, 1) := by decide +kernel
theorem dL_seen_26 : decode cL_seen 26 = .ok (.invokevirtual 288, 3) := by decide +kernel
theorem dL_seen_29 : decode cL_seen 29 = .ok (.i2l, 1) := by decide +kernel
theorem dL_seen_30 : decode cL_seen 30 = .ok (.ladd, 1) := by decide +kernel
theorem dL_seen_31 : decode cL_seen 31 = .ok (.lstore_n 1, 1) := by decide +kernel
theorem dL_seen_32 : decode cL_seen 32 = .ok (.iconst 0, 1) := by decide +kernel
theorem dL_seen_33 : decode cL_seen 33 = .ok (.istore_n 3, 1) := by decide +kernel
theorem dL_seen_34 : decode cL_seen 34 = .ok (.iload_n 3, 1) := by decide +kernel
theorem dL_seen_35 : decode cL_seen 35 = .ok (.aload_n 0, 1) := by decide +kernel
theorem dL_seen_36 : decode cL_seen 36 = .ok (.invokevirtual 197, 3) := by decide +kernel
theorem dL_seen_39 : decode cL_seen 39 = .ok (.if_icmp .ge 49, 3) := by decide +kernel
theorem dL_seen_42 : decode cL_seen 42 = .ok (.ldc2_w 297, 3) := by decide +kernel
theorem dL_seen_45 : decode cL_seen 45 = .ok (.lload_n 1, 1) := by decide +kernel
theorem dL_seen_46 : decode cL_seen 46 = .ok (.lmul, 1) := by decide +kernel
theorem dL_seen_47 : decode cL_seen 47 = .ok (.aload_n 0, 1) := by decide +kernel
theorem dL_seen_48 : decode cL_seen 48 = .ok (.iload_n 3, 1) := by decide +kernel
theorem dL_seen_49 : decode cL_seen 49 = .ok (.invokestatic 269, 3) := by decide +kernel
theorem dL_seen_52 : decode cL_seen 52 = .ok (.i2l, 1) := by decide +kernel
theorem dL_seen_53 : decode cL_seen 53 = .ok (.ladd, 1) := by decide +kernel
theorem dL_seen_54 : decode cL_seen 54 = .ok (.bipush 64, 2) := by decide +kernel
theorem dL_seen_56 : decode cL_seen 56 = .ok (.aload_n 0, 1) := by decide +kernel
theorem dL_seen_57 : decode cL_seen 57 = .ok (.iload_n 3, 1) := by decide +kernel
theorem dL_seen_58 : decode cL_seen 58 = .ok (.invokestatic 271, 3) := by decide +kernel
theorem dL_seen_61 : decode cL_seen 61 = .ok (.imul, 1) := by decide +kernel
theorem dL_seen_62 : decode cL_seen 62 = .ok (.i2l, 1) := by decide +kernel
theorem dL_seen_63 : decode cL_seen 63 = .ok (.ladd, 1) := by decide +kernel
theorem dL_seen_64 : decode cL_seen 64 = .ok (.aload_n 0, 1) := by decide +kernel
theorem dL_seen_65 : decode cL_seen 65 = .ok (.iload_n 3, 1) := by decide +kernel
theorem dL_seen_66 : decode cL_seen 66 = .ok (.invokestatic 307, 3) := by decide +kernel
theorem dL_seen_69 : decode cL_seen 69 = .ok (.ifCond .eq 9, 3) := by decide +kernel
theorem dL_seen_72 : decode cL_seen 72 = .ok (.sipush 4096, 3) := by decide +kernel
theorem dL_seen_75 : decode cL_seen 75 = .ok (.goto 4, 3) := by decide +kernel
theorem dL_seen_78 : decode cL_seen 78 = .ok (.iconst 0, 1) := by decide +kernel
theorem dL_seen_79 : decode cL_seen 79 = .ok (.i2l, 1) := by decide +kernel
theorem dL_seen_80 : decode cL_seen 80 = .ok (.ladd, 1) := by decide +kernel
theorem dL_seen_81 : decode cL_seen 81 = .ok (.lstore_n 1, 1) := by decide +kernel
theorem dL_seen_82 : decode cL_seen 82 = .ok (.iinc 3 1, 3) := by decide +kernel
theorem dL_seen_85 : decode cL_seen 85 = .ok (.goto (-51), 3) := by decide +kernel
theorem dL_seen_88 : decode cL_seen 88 = .ok (.iconst 0, 1) := by decide +kernel
theorem dL_seen_89 : decode cL_seen 89 = .ok (.istore_n 3, 1) := by decide +kernel
theorem dL_seen_90 : decode cL_seen 90 = .ok (.iload_n 3, 1) := by decide +kernel
theorem dL_seen_91 : decode cL_seen 91 = .ok (.aload_n 0, 1) := by decide +kernel
theorem dL_seen_92 : decode cL_seen 92 = .ok (.invokevirtual 188, 3) := by decide +kernel
theorem dL_seen_95 : decode cL_seen 95 = .ok (.if_icmp .ge 42, 3) := by decide +kernel
theorem dL_seen_98 : decode cL_seen 98 = .ok (.ldc2_w 297, 3) := by decide +kernel
theorem dL_seen_101 : decode cL_seen 101 = .ok (.lload_n 1, 1) := by decide +kernel
theorem dL_seen_102 : decode cL_seen 102 = .ok (.lmul, 1) := by decide +kernel
theorem dL_seen_103 : decode cL_seen 103 = .ok (.aload_n 0, 1) := by decide +kernel
theorem dL_seen_104 : decode cL_seen 104 = .ok (.iload_n 3, 1) := by decide +kernel
theorem dL_seen_105 : decode cL_seen 105 = .ok (.invokestatic 253, 3) := by decide +kernel
theorem dL_seen_108 : decode cL_seen 108 = .ok (.i2l, 1) := by decide +kernel
theorem dL_seen_109 : decode cL_seen 109 = .ok (.ladd, 1) := by decide +kernel
theorem dL_seen_110 : decode cL_seen 110 = .ok (.bipush 7, 2) := by decide +kernel
theorem dL_seen_112 : decode cL_seen 112 = .ok (.aload_n 0, 1) := by decide +kernel
theorem dL_seen_113 : decode cL_seen 113 = .ok (.iload_n 3, 1) := by decide +kernel
theorem dL_seen_114 : decode cL_seen 114 = .ok (.invokestatic 265, 3) := by decide +kernel
theorem dL_seen_117 : decode cL_seen 117 = .ok (.imul, 1) := by decide +kernel
theorem dL_seen_118 : decode cL_seen 118 = .ok (.i2l, 1) := by decide +kernel
theorem dL_seen_119 : decode cL_seen 119 = .ok (.ladd, 1) := by decide +kernel
theorem dL_seen_120 : decode cL_seen 120 = .ok (.bipush 13, 2) := by decide +kernel
theorem dL_seen_122 : decode cL_seen 122 = .ok (.aload_n 0, 1) := by decide +kernel
theorem dL_seen_123 : decode cL_seen 123 = .ok (.iload_n 3, 1) := by decide +kernel
theorem dL_seen_124 : decode cL_seen 124 = .ok (.invokestatic 261, 3) := by decide +kernel
theorem dL_seen_127 : decode cL_seen 127 = .ok (.imul, 1) := by decide +kernel
theorem dL_seen_128 : decode cL_seen 128 = .ok (.i2l, 1) := by decide +kernel
theorem dL_seen_129 : decode cL_seen 129 = .ok (.ladd, 1) := by decide +kernel
theorem dL_seen_130 : decode cL_seen 130 = .ok (.lstore_n 1, 1) := by decide +kernel
theorem dL_seen_131 : decode cL_seen 131 = .ok (.iinc 3 1, 3) := by decide +kernel
theorem dL_seen_134 : decode cL_seen 134 = .ok (.goto (-44), 3) := by decide +kernel
theorem dL_seen_137 : decode cL_seen 137 = .ok (.lload_n 1, 1) := by decide +kernel
theorem dL_seen_138 : decode cL_seen 138 = .ok (.lreturn, 1) := by decide +kernel
theorem dL_isAlike_0 : decode cL_isAlike 0 = .ok (.aload_n 0, 1) := by decide +kernel
theorem dL_isAlike_1 : decode cL_isAlike 1 = .ok (.invokestatic 309, 3) := by decide +kernel
theorem dL_isAlike_4 : decode cL_isAlike 4 = .ok (.lstore_n 3, 1) := by decide +kernel
theorem dL_isAlike_5 : decode cL_isAlike 5 = .ok (.aload_n 0, 1) := by decide +kernel
theorem dL_isAlike_6 : decode cL_isAlike 6 = .ok (.iload_n 1, 1) := by decide +kernel
theorem dL_isAlike_7 : decode cL_isAlike 7 = .ok (.invokestatic 211, 3) := by decide +kernel
theorem dL_isAlike_10 : decode cL_isAlike 10 = .ok (.istore 5, 2) := by decide +kernel
theorem dL_isAlike_12 : decode cL_isAlike 12 = .ok (.aload_n 0, 1) := by decide +kernel
theorem dL_isAlike_13 : decode cL_isAlike 13 = .ok (.iload_n 2, 1) := by decide +kernel
theorem dL_isAlike_14 : decode cL_isAlike 14 = .ok (.invokestatic 211, 3) := by decide +kernel
theorem dL_isAlike_17 : decode cL_isAlike 17 = .ok (.istore 6, 2) := by decide +kernel
theorem dL_isAlike_19 : decode cL_isAlike 19 = .ok (.iload 5, 2) := by decide +kernel
theorem dL_isAlike_21 : decode cL_isAlike 21 = .ok (.sipush (-7777), 3) := by decide +kernel
theorem dL_isAlike_24 : decode cL_isAlike 24 = .ok (.if_icmp .eq 11, 3) := by decide +kernel
theorem dL_isAlike_27 : decode cL_isAlike 27 = .ok (.iload 6, 2) := by decide +kernel
theorem dL_isAlike_29 : decode cL_isAlike 29 = .ok (.sipush (-7777), 3) := by decide +kernel
theorem dL_isAlike_32 : decode cL_isAlike 32 = .ok (.if_icmp .ne 5, 3) := by decide +kernel
theorem dL_isAlike_35 : decode cL_isAlike 35 = .ok (.iconst 0, 1) := by decide +kernel
theorem dL_isAlike_36 : decode cL_isAlike 36 = .ok (.ireturn, 1) := by decide +kernel
theorem dL_isAlike_37 : decode cL_isAlike 37 = .ok (.aload_n 0, 1) := by decide +kernel
theorem dL_isAlike_38 : decode cL_isAlike 38 = .ok (.invokestatic 309, 3) := by decide +kernel
theorem dL_isAlike_41 : decode cL_isAlike 41 = .ok (.lstore 7, 2) := by decide +kernel
theorem dL_isAlike_43 : decode cL_isAlike 43 = .ok (.aload_n 0, 1) := by decide +kernel
theorem dL_isAlike_44 : decode cL_isAlike 44 = .ok (.invokevirtual 291, 3) := by decide +kernel
theorem dL_isAlike_47 : decode cL_isAlike 47 = .ok (.pop, 1) := by decide +kernel
theorem dL_isAlike_48 : decode cL_isAlike 48 = .ok (.aload_n 0, 1) := by decide +kernel
theorem dL_isAlike_49 : decode cL_isAlike 49 = .ok (.invokevirtual 291, 3) := by decide +kernel
theorem dL_isAlike_52 : decode cL_isAlike 52 = .ok (.pop, 1) := by decide +kernel
theorem dL_isAlike_53 : decode cL_isAlike 53 = .ok (.aload_n 0, 1) := by decide +kernel
theorem dL_isAlike_54 : decode cL_isAlike 54 = .ok (.iload_n 1, 1) := by decide +kernel
theorem dL_isAlike_55 : decode cL_isAlike 55 = .ok (.iload_n 2, 1) := by decide +kernel
theorem dL_isAlike_56 : decode cL_isAlike 56 = .ok (.iadd, 1) := by decide +kernel
theorem dL_isAlike_57 : decode cL_isAlike 57 = .ok (.invokestatic 211, 3) := by decide +kernel
theorem dL_isAlike_60 : decode cL_isAlike 60 = .ok (.iload 6, 2) := by decide +kernel
theorem dL_isAlike_62 : decode cL_isAlike 62 = .ok (.if_icmp .ne 17, 3) := by decide +kernel
theorem dL_isAlike_65 : decode cL_isAlike 65 = .ok (.aload_n 0, 1) := by decide +kernel
theorem dL_isAlike_66 : decode cL_isAlike 66 = .ok (.invokestatic 309, 3) := by decide +kernel
theorem dL_isAlike_69 : decode cL_isAlike 69 = .ok (.lload 7, 2) := by decide +kernel
theorem dL_isAlike_71 : decode cL_isAlike 71 = .ok (.lcmp, 1) := by decide +kernel
theorem dL_isAlike_72 : decode cL_isAlike 72 = .ok (.ifCond .ne 7, 3) := by decide +kernel
theorem dL_isAlike_75 : decode cL_isAlike 75 = .ok (.iconst 1, 1) := by decide +kernel
theorem dL_isAlike_76 : decode cL_isAlike 76 = .ok (.goto 4, 3) := by decide +kernel
theorem dL_isAlike_79 : decode cL_isAlike 79 = .ok (.iconst 0, 1) := by decide +kernel
theorem dL_isAlike_80 : decode cL_isAlike 80 = .ok (.istore 9, 2) := by decide +kernel
theorem dL_isAlike_82 : decode cL_isAlike 82 = .ok (.aload_n 0, 1) := by decide +kernel
theorem dL_isAlike_83 : decode cL_isAlike 83 = .ok (.invokevirtual 291, 3) := by decide +kernel
theorem dL_isAlike_86 : decode cL_isAlike 86 = .ok (.pop, 1) := by decide +kernel
theorem dL_isAlike_87 : decode cL_isAlike 87 = .ok (.iload 9, 2) := by decide +kernel
theorem dL_isAlike_89 : decode cL_isAlike 89 = .ok (.ifCond .eq 16, 3) := by decide +kernel
theorem dL_isAlike_92 : decode cL_isAlike 92 = .ok (.aload_n 0, 1) := by decide +kernel
theorem dL_isAlike_93 : decode cL_isAlike 93 = .ok (.invokestatic 309, 3) := by decide +kernel
theorem dL_isAlike_96 : decode cL_isAlike 96 = .ok (.lload_n 3, 1) := by decide +kernel
theorem dL_isAlike_97 : decode cL_isAlike 97 = .ok (.lcmp, 1) := by decide +kernel
theorem dL_isAlike_98 : decode cL_isAlike 98 = .ok (.ifCond .ne 7, 3) := by decide +kernel
theorem dL_isAlike_101 : decode cL_isAlike 101 = .ok (.iconst 1, 1) := by decide +kernel
theorem dL_isAlike_102 : decode cL_isAlike 102 = .ok (.goto 4, 3) := by decide +kernel
theorem dL_isAlike_105 : decode cL_isAlike 105 = .ok (.iconst 0, 1) := by decide +kernel
theorem dL_isAlike_106 : decode cL_isAlike 106 = .ok (.ireturn, 1) := by decide +kernel
