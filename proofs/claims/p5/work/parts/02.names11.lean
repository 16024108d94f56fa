theorem dX12_keyOf_41 : decode cX12_keyOf 41 = .ok (.getfield 28, 3) := by decide +kernel
theorem dX12_keyOf_44 : decode cX12_keyOf 44 = .ok (.iload_n 2, 1) := by decide +kernel
theorem dX12_keyOf_45 : decode cX12_keyOf 45 = .ok (.iaload, 1) := by decide +kernel
theorem dX12_keyOf_46 : decode cX12_keyOf 46 = .ok (.ireturn, 1) := by decide +kernel
theorem dX12_keyOf_47 : decode cX12_keyOf 47 = .ok (.iinc 2 1, 3) := by decide +kernel
theorem dX12_keyOf_50 : decode cX12_keyOf 50 = .ok (.goto (-48), 3) := by decide +kernel
theorem dX12_keyOf_53 : decode cX12_keyOf 53 = .ok (.bipush (-9), 2) := by decide +kernel
theorem dX12_keyOf_55 : decode cX12_keyOf 55 = .ok (.ireturn, 1) := by decide +kernel
theorem dX12_key_0 : decode cX12_key 0 = .ok (.aload_n 0, 1) := by decide +kernel
theorem dX12_key_1 : decode cX12_key 1 = .ok (.iload_n 1, 1) := by decide +kernel
theorem dX12_key_2 : decode cX12_key 2 = .ok (.invokevirtual 180, 3) := by decide +kernel
theorem dX12_key_5 : decode cX12_key 5 = .ok (.ifCond .ne 7, 3) := by decide +kernel
theorem dX12_key_8 : decode cX12_key 8 = .ok (.iconst (-1), 1) := by decide +kernel
theorem dX12_key_9 : decode cX12_key 9 = .ok (.goto 24, 3) := by decide +kernel
theorem dX12_key_12 : decode cX12_key 12 = .ok (.aload_n 0, 1) := by decide +kernel
theorem dX12_key_13 : decode cX12_key 13 = .ok (.iload_n 1, 1) := by decide +kernel
theorem dX12_key_14 : decode cX12_key 14 = .ok (.invokevirtual 191, 3) := by decide +kernel
theorem dX12_key_17 : decode cX12_key 17 = .ok (.ifCond .eq 11, 3) := by decide +kernel
theorem dX12_key_20 : decode cX12_key 20 = .ok (.aload_n 0, 1) := by decide +kernel
theorem dX12_key_21 : decode cX12_key 21 = .ok (.iload_n 1, 1) := by decide +kernel
theorem dX12_key_22 : decode cX12_key 22 = .ok (.invokevirtual 260, 3) := by decide +kernel
theorem dX12_key_25 : decode cX12_key 25 = .ok (.goto 8, 3) := by decide +kernel
theorem dX12_key_28 : decode cX12_key 28 = .ok (.aload_n 0, 1) := by decide +kernel
theorem dX12_key_29 : decode cX12_key 29 = .ok (.iconst 3, 1) := by decide +kernel
theorem dX12_key_30 : decode cX12_key 30 = .ok (.invokevirtual 233, 3) := by decide +kernel
theorem dX12_key_33 : decode cX12_key 33 = .ok (.ireturn, 1) := by decide +kernel
theorem dX12_findExit_0 : decode cX12_findExit 0 = .ok (.aload_n 0, 1) := by decide +kernel
theorem dX12_findExit_1 : decode cX12_findExit 1 = .ok (.bipush (-9), 2) := by decide +kernel
theorem dX12_findExit_3 : decode cX12_findExit 3 = .ok (.putfield 263, 3) := by decide +kernel
theorem dX12_findExit_6 : decode cX12_findExit 6 = .ok (.aload_n 0, 1) := by decide +kernel
theorem dX12_findExit_7 : decode cX12_findExit 7 = .ok (.bipush (-9), 2) := by decide +kernel
theorem dX12_findExit_9 : decode cX12_findExit 9 = .ok (.putfield 266, 3) := by decide +kernel
theorem dX12_findExit_12 : decode cX12_findExit 12 = .ok (.aload_n 0, 1) := by decide +kernel
theorem dX12_findExit_13 : decode cX12_findExit 13 = .ok (.bipush (-9), 2) := by decide +kernel
theorem dX12_findExit_15 : decode cX12_findExit 15 = .ok (.putfield 269, 3) := by decide +kernel
theorem dX12_findExit_18 : decode cX12_findExit 18 = .ok (.aload_n 0, 1) := by decide +kernel
theorem dX12_findExit_19 : decode cX12_findExit 19 = .ok (.iconst 0, 1) := by decide +kernel
theorem dX12_findExit_20 : decode cX12_findExit 20 = .ok (.putfield 272, 3) := by decide +kernel
theorem dX12_findExit_23 : decode cX12_findExit 23 = .ok (.iload_n 2, 1) := by decide +kernel
theorem dX12_findExit_24 : decode cX12_findExit 24 = .ok (.iconst 2, 1) := by decide +kernel
theorem dX12_findExit_25 : decode cX12_findExit 25 = .ok (.irem, 1) := by decide +kernel
theorem dX12_findExit_26 : decode cX12_findExit 26 = .ok (.ifCond .ne 9, 3) := by decide +kernel
theorem dX12_findExit_29 : decode cX12_findExit 29 = .ok (.iload_n 2, 1) := by decide +kernel
theorem dX12_findExit_30 : decode cX12_findExit 30 = .ok (.iconst 1, 1) := by decide +kernel
theorem dX12_findExit_31 : decode cX12_findExit 31 = .ok (.iadd, 1) := by decide +kernel
theorem dX12_findExit_32 : decode cX12_findExit 32 = .ok (.goto 6, 3) := by decide +kernel
theorem dX12_findExit_35 : decode cX12_findExit 35 = .ok (.iload_n 2, 1) := by decide +kernel
theorem dX12_findExit_36 : decode cX12_findExit 36 = .ok (.iconst 1, 1) := by decide +kernel
theorem dX12_findExit_37 : decode cX12_findExit 37 = .ok (.isub, 1) := by decide +kernel
theorem dX12_findExit_38 : decode cX12_findExit 38 = .ok (.istore_n 3, 1) := by decide +kernel
theorem dX12_findExit_39 : decode cX12_findExit 39 = .ok (.bipush (-9), 2) := by decide +kernel
theorem dX12_findExit_41 : decode cX12_findExit 41 = .ok (.istore 4, 2) := by decide +kernel
theorem dX12_findExit_43 : decode cX12_findExit 43 = .ok (.iconst 0, 1) := by decide +kernel
theorem dX12_findExit_44 : decode cX12_findExit 44 = .ok (.istore 5, 2) := by decide +kernel
theorem dX12_findExit_46 : decode cX12_findExit 46 = .ok (.iload 5, 2) := by decide +kernel
theorem dX12_findExit_48 : decode cX12_findExit 48 = .ok (.aload_n 0, 1) := by decide +kernel
theorem dX12_findExit_49 : decode cX12_findExit 49 = .ok (.getfield 202, 3) := by decide +kernel
theorem dX12_findExit_52 : decode cX12_findExit 52 = .ok (.if_icmp .ge 112, 3) := by decide +kernel
theorem dX12_findExit_55 : decode cX12_findExit 55 = .ok (.aload_n 0, 1) := by decide +kernel
theorem dX12_findExit_56 : decode cX12_findExit 56 = .ok (.getfield 37, 3) := by decide +kernel
theorem dX12_findExit_59 : decode cX12_findExit 59 = .ok (.iload 5, 2) := by decide +kernel
theorem dX12_findExit_61 : decode cX12_findExit 61 = .ok (.baload, 1) := by decide +kernel
theorem dX12_findExit_62 : decode cX12_findExit 62 = .ok (.ifCond .eq 42, 3) := by decide +kernel
theorem dX12_findExit_65 : decode cX12_findExit 65 = .ok (.aload_n 0, 1) := by decide +kernel
theorem dX12_findExit_66 : decode cX12_findExit 66 = .ok (.getfield 25, 3) := by decide +kernel
theorem dX12_findExit_69 : decode cX12_findExit 69 = .ok (.iload 5, 2) := by decide +kernel
theorem dX12_findExit_71 : decode cX12_findExit 71 = .ok (.iaload, 1) := by decide +kernel
theorem dX12_findExit_72 : decode cX12_findExit 72 = .ok (.iconst 5, 1) := by decide +kernel
theorem dX12_findExit_73 : decode cX12_findExit 73 = .ok (.if_icmp .ne 31, 3) := by decide +kernel
theorem dX12_findExit_76 : decode cX12_findExit 76 = .ok (.aload_n 0, 1) := by decide +kernel
theorem dX12_findExit_77 : decode cX12_findExit 77 = .ok (.getfield 28, 3) := by decide +kernel
theorem dX12_findExit_80 : decode cX12_findExit 80 = .ok (.iload 5, 2) := by decide +kernel
theorem dX12_findExit_82 : decode cX12_findExit 82 = .ok (.iaload, 1) := by decide +kernel
theorem dX12_findExit_83 : decode cX12_findExit 83 = .ok (.iload_n 1, 1) := by decide +kernel
theorem dX12_findExit_84 : decode cX12_findExit 84 = .ok (.if_icmp .ne 20, 3) := by decide +kernel
theorem dX12_findExit_87 : decode cX12_findExit 87 = .ok (.aload_n 0, 1) := by decide +kernel
theorem dX12_findExit_88 : decode cX12_findExit 88 = .ok (.getfield 34, 3) := by decide +kernel
theorem dX12_findExit_91 : decode cX12_findExit 91 = .ok (.iload 5, 2) := by decide +kernel
theorem dX12_findExit_93 : decode cX12_findExit 93 = .ok (.iaload, 1) := by decide +kernel
theorem dX12_findExit_94 : decode cX12_findExit 94 = .ok (.iload_n 2, 1) := by decide +kernel
theorem dX12_findExit_95 : decode cX12_findExit 95 = .ok (.if_icmp .ne 9, 3) := by decide +kernel
theorem dX12_findExit_98 : decode cX12_findExit 98 = .ok (.aload_n 0, 1) := by decide +kernel
theorem dX12_findExit_99 : decode cX12_findExit 99 = .ok (.iload 5, 2) := by decide +kernel
theorem dX12_findExit_101 : decode cX12_findExit 101 = .ok (.putfield 269, 3) := by decide +kernel
theorem dX12_findExit_104 : decode cX12_findExit 104 = .ok (.aload_n 0, 1) := by decide +kernel
theorem dX12_findExit_105 : decode cX12_findExit 105 = .ok (.getfield 37, 3) := by decide +kernel
theorem dX12_findExit_108 : decode cX12_findExit 108 = .ok (.iload 5, 2) := by decide +kernel
theorem dX12_findExit_110 : decode cX12_findExit 110 = .ok (.baload, 1) := by decide +kernel
theorem dX12_findExit_111 : decode cX12_findExit 111 = .ok (.ifCond .eq 47, 3) := by decide +kernel
theorem dX12_findExit_114 : decode cX12_findExit 114 = .ok (.aload_n 0, 1) := by decide +kernel
theorem dX12_findExit_115 : decode cX12_findExit 115 = .ok (.getfield 25, 3) := by decide +kernel
theorem dX12_findExit_118 : decode cX12_findExit 118 = .ok (.iload 5, 2) := by decide +kernel
theorem dX12_findExit_120 : decode cX12_findExit 120 = .ok (.iaload, 1) := by decide +kernel
theorem dX12_findExit_121 : decode cX12_findExit 121 = .ok (.iconst 5, 1) := by decide +kernel
theorem dX12_findExit_122 : decode cX12_findExit 122 = .ok (.if_icmp .ne 36, 3) := by decide +kernel
theorem dX12_findExit_125 : decode cX12_findExit 125 = .ok (.aload_n 0, 1) := by decide +kernel
theorem dX12_findExit_126 : decode cX12_findExit 126 = .ok (.getfield 31, 3) := by decide +kernel
theorem dX12_findExit_129 : decode cX12_findExit 129 = .ok (.iload 5, 2) := by decide +kernel
theorem dX12_findExit_131 : decode cX12_findExit 131 = .ok (.iaload, 1) := by decide +kernel
theorem dX12_findExit_132 : decode cX12_findExit 132 = .ok (.iload_n 1, 1) := by decide +kernel
theorem dX12_findExit_133 : decode cX12_findExit 133 = .ok (.if_icmp .ne 25, 3) := by decide +kernel
theorem dX12_findExit_136 : decode cX12_findExit 136 = .ok (.aload_n 0, 1) := by decide +kernel
theorem dX12_findExit_137 : decode cX12_findExit 137 = .ok (.getfield 34, 3) := by decide +kernel
theorem dX12_findExit_140 : decode cX12_findExit 140 = .ok (.iload 5, 2) := by decide +kernel
theorem dX12_findExit_142 : decode cX12_findExit 142 = .ok (.iaload, 1) := by decide +kernel
theorem dX12_findExit_143 : decode cX12_findExit 143 = .ok (.iload_n 3, 1) := by decide +kernel
theorem dX12_findExit_144 : decode cX12_findExit 144 = .ok (.if_icmp .ne 14, 3) := by decide +kernel
theorem dX12_findExit_147 : decode cX12_findExit 147 = .ok (.iload 4, 2) := by decide +kernel
theorem dX12_findExit_149 : decode cX12_findExit 149 = .ok (.bipush (-9), 2) := by decide +kernel
theorem dX12_findExit_151 : decode cX12_findExit 151 = .ok (.if_icmp .ne 7, 3) := by decide +kernel
theorem dX12_findExit_154 : decode cX12_findExit 154 = .ok (.iload 5, 2) := by decide +kernel
theorem dX12_findExit_156 : decode cX12_findExit 156 = .ok (.istore 4, 2) := by decide +kernel
theorem dX12_findExit_158 : decode cX12_findExit 158 = .ok (.iinc 5 1, 3) := by decide +kernel
theorem dX12_findExit_161 : decode cX12_findExit 161 = .ok (.goto (-115), 3) := by decide +kernel
theorem dX12_findExit_164 : decode cX12_findExit 164 = .ok (.aload_n 0, 1) := by decide +kernel
theorem dX12_findExit_165 : decode cX12_findExit 165 = .ok (.getfield 269, 3) := by decide +kernel
theorem dX12_findExit_168 : decode cX12_findExit 168 = .ok (.bipush (-9), 2) := by decide +kernel
theorem dX12_findExit_170 : decode cX12_findExit 170 = .ok (.if_icmp .eq 49, 3) := by decide +kernel
theorem dX12_findExit_173 : decode cX12_findExit 173 = .ok (.aload_n 0, 1) := by decide +kernel
theorem dX12_findExit_174 : decode cX12_findExit 174 = .ok (.aload_n 0, 1) := by decide +kernel
theorem dX12_findExit_175 : decode cX12_findExit 175 = .ok (.getfield 31, 3) := by decide +kernel
theorem dX12_findExit_178 : decode cX12_findExit 178 = .ok (.aload_n 0, 1) := by decide +kernel
theorem dX12_findExit_179 : decode cX12_findExit 179 = .ok (.getfield 269, 3) := by decide +kernel
theorem dX12_findExit_182 : decode cX12_findExit 182 = .ok (.iaload, 1) := by decide +kernel
theorem dX12_findExit_183 : decode cX12_findExit 183 = .ok (.iconst 2, 1) := by decide +kernel
theorem dX12_findExit_184 : decode cX12_findExit 184 = .ok (.invokevirtual 184, 3) := by decide +kernel
theorem dX12_findExit_187 : decode cX12_findExit 187 = .ok (.ifCond .eq 32, 3) := by decide +kernel
theorem dX12_findExit_190 : decode cX12_findExit 190 = .ok (.aload_n 0, 1) := by decide +kernel
theorem dX12_findExit_191 : decode cX12_findExit 191 = .ok (.aload_n 0, 1) := by decide +kernel
theorem dX12_findExit_192 : decode cX12_findExit 192 = .ok (.getfield 31, 3) := by decide +kernel
theorem dX12_findExit_195 : decode cX12_findExit 195 = .ok (.aload_n 0, 1) := by decide +kernel
theorem dX12_findExit_196 : decode cX12_findExit 196 = .ok (.getfield 269, 3) := by decide +kernel
theorem dX12_findExit_199 : decode cX12_findExit 199 = .ok (.iaload, 1) := by decide +kernel
theorem dX12_findExit_200 : decode cX12_findExit 200 = .ok (.putfield 266, 3) := by decide +kernel
theorem dX12_findExit_203 : decode cX12_findExit 203 = .ok (.aload_n 0, 1) := by decide +kernel
theorem dX12_findExit_204 : decode cX12_findExit 204 = .ok (.aload_n 0, 1) := by decide +kernel
theorem dX12_findExit_205 : decode cX12_findExit 205 = .ok (.aload_n 0, 1) := by decide +kernel
theorem dX12_findExit_206 : decode cX12_findExit 206 = .ok (.getfield 266, 3) := by decide +kernel
theorem dX12_findExit_209 : decode cX12_findExit 209 = .ok (.iload_n 1, 1) := by decide +kernel
theorem dX12_findExit_210 : decode cX12_findExit 210 = .ok (.invokevirtual 276, 3) := by decide +kernel
theorem dX12_findExit_213 : decode cX12_findExit 213 = .ok (.putfield 263, 3) := by decide +kernel
theorem dX12_findExit_216 : decode cX12_findExit 216 = .ok (.goto 57, 3) := by decide +kernel
theorem dX12_findExit_219 : decode cX12_findExit 219 = .ok (.aload_n 0, 1) := by decide +kernel
theorem dX12_findExit_220 : decode cX12_findExit 220 = .ok (.getfield 269, 3) := by decide +kernel
theorem dX12_findExit_223 : decode cX12_findExit 223 = .ok (.bipush (-9), 2) := by decide +kernel
theorem dX12_findExit_225 : decode cX12_findExit 225 = .ok (.if_icmp .eq 19, 3) := by decide +kernel
theorem dX12_findExit_228 : decode cX12_findExit 228 = .ok (.aload_n 0, 1) := by decide +kernel
theorem dX12_findExit_229 : decode cX12_findExit 229 = .ok (.aload_n 0, 1) := by decide +kernel
theorem dX12_findExit_230 : decode cX12_findExit 230 = .ok (.getfield 31, 3) := by decide +kernel
theorem dX12_findExit_233 : decode cX12_findExit 233 = .ok (.aload_n 0, 1) := by decide +kernel
theorem dX12_findExit_234 : decode cX12_findExit 234 = .ok (.getfield 269, 3) := by decide +kernel
theorem dX12_findExit_237 : decode cX12_findExit 237 = .ok (.iaload, 1) := by decide +kernel
theorem dX12_findExit_238 : decode cX12_findExit 238 = .ok (.putfield 263, 3) := by decide +kernel
theorem dX12_findExit_241 : decode cX12_findExit 241 = .ok (.goto 32, 3) := by decide +kernel
theorem dX12_findExit_244 : decode cX12_findExit 244 = .ok (.iload 4, 2) := by decide +kernel
theorem dX12_findExit_246 : decode cX12_findExit 246 = .ok (.bipush (-9), 2) := by decide +kernel
theorem dX12_findExit_248 : decode cX12_findExit 248 = .ok (.if_icmp .eq 25, 3) := by decide +kernel
theorem dX12_findExit_251 : decode cX12_findExit 251 = .ok (.aload_n 0, 1) := by decide +kernel
theorem dX12_findExit_252 : decode cX12_findExit 252 = .ok (.iload 4, 2) := by decide +kernel
theorem dX12_findExit_254 : decode cX12_findExit 254 = .ok (.putfield 269, 3) := by decide +kernel
theorem dX12_findExit_257 : decode cX12_findExit 257 = .ok (.aload_n 0, 1) := by decide +kernel
theorem dX12_findExit_258 : decode cX12_findExit 258 = .ok (.iconst 1, 1) := by decide +kernel
theorem dX12_findExit_259 : decode cX12_findExit 259 = .ok (.putfield 272, 3) := by decide +kernel
theorem dX12_findExit_262 : decode cX12_findExit 262 = .ok (.aload_n 0, 1) := by decide +kernel
theorem dX12_findExit_263 : decode cX12_findExit 263 = .ok (.aload_n 0, 1) := by decide +kernel
theorem dX12_findExit_264 : decode cX12_findExit 264 = .ok (.getfield 28, 3) := by decide +kernel
theorem dX12_findExit_267 : decode cX12_findExit 267 = .ok (.iload 4, 2) := by decide +kernel
theorem dX12_findExit_269 : decode cX12_findExit 269 = .ok (.iaload, 1) := by decide +kernel
theorem dX12_findExit_270 : decode cX12_findExit 270 = .ok (.putfield 263, 3) := by decide +kernel
theorem dX12_findExit_273 : decode cX12_findExit 273 = .ok (.aload_n 0, 1) := by decide +kernel
theorem dX12_findExit_274 : decode cX12_findExit 274 = .ok (.getfield 269, 3) := by decide +kernel
theorem dX12_findExit_277 : decode cX12_findExit 277 = .ok (.bipush (-9), 2) := by decide +kernel
theorem dX12_findExit_279 : decode cX12_findExit 279 = .ok (.if_icmp .eq 7, 3) := by decide +kernel
theorem dX12_findExit_282 : decode cX12_findExit 282 = .ok (.iconst 1, 1) := by decide +kernel
theorem dX12_findExit_283 : decode cX12_findExit 283 = .ok (.goto 4, 3) := by decide +kernel
theorem dX12_findExit_286 : decode cX12_findExit 286 = .ok (.iconst 0, 1) := by decide +kernel
theorem dX12_findExit_287 : decode cX12_findExit 287 = .ok (.ireturn, 1) := by decide +kernel
theorem dX12_otherSide_0 : decode cX12_otherSide 0 = .ok (.iconst 0, 1) := by decide +kernel
theorem dX12_otherSide_1 : decode cX12_otherSide 1 = .ok (.istore_n 3, 1) := by decide +kernel
theorem dX12_otherSide_2 : decode cX12_otherSide 2 = .ok (.iload_n 3, 1) := by decide +kernel
theorem dX12_otherSide_3 : decode cX12_otherSide 3 = .ok (.aload_n 0, 1) := by decide +kernel
theorem dX12_otherSide_4 : decode cX12_otherSide 4 = .ok (.getfield 202, 3) := by decide +kernel
theorem dX12_otherSide_7 : decode cX12_otherSide 7 = .ok (.if_icmp .ge 55, 3) := by decide +kernel
theorem dX12_otherSide_10 : decode cX12_otherSide 10 = .ok (.aload_n 0, 1) := by decide +kernel
theorem dX12_otherSide_11 : decode cX12_otherSide 11 = .ok (.getfield 37, 3) := by decide +kernel
theorem dX12_otherSide_14 : decode cX12_otherSide 14 = .ok (.iload_n 3, 1) := by decide +kernel
theorem dX12_otherSide_15 : decode cX12_otherSide 15 = .ok (.baload, 1) := by decide +kernel
theorem dX12_otherSide_16 : decode cX12_otherSide 16 = .ok (.ifCond .eq 40, 3) := by decide +kernel
theorem dX12_otherSide_19 : decode cX12_otherSide 19 = .ok (.aload_n 0, 1) := by decide +kernel
theorem dX12_otherSide_20 : decode cX12_otherSide 20 = .ok (.getfield 25, 3) := by decide +kernel
theorem dX12_otherSide_23 : decode cX12_otherSide 23 = .ok (.iload_n 3, 1) := by decide +kernel
theorem dX12_otherSide_24 : decode cX12_otherSide 24 = .ok (.iaload, 1) := by decide +kernel
theorem dX12_otherSide_25 : decode cX12_otherSide 25 = .ok (.iconst 5, 1) := by decide +kernel
theorem dX12_otherSide_26 : decode cX12_otherSide 26 = .ok (.if_icmp .ne 30, 3) := by decide +kernel
theorem dX12_otherSide_29 : decode cX12_otherSide 29 = .ok (.aload_n 0, 1) := by decide +kernel
theorem dX12_otherSide_30 : decode cX12_otherSide 30 = .ok (.getfield 31, 3) := by decide +kernel
theorem dX12_otherSide_33 : decode cX12_otherSide 33 = .ok (.iload_n 3, 1) := by decide +kernel
theorem dX12_otherSide_34 : decode cX12_otherSide 34 = .ok (.iaload, 1) := by decide +kernel
theorem dX12_otherSide_35 : decode cX12_otherSide 35 = .ok (.iload_n 1, 1) := by decide +kernel
theorem dX12_otherSide_36 : decode cX12_otherSide 36 = .ok (.if_icmp .ne 20, 3) := by decide +kernel
theorem dX12_otherSide_39 : decode cX12_otherSide 39 = .ok (.aload_n 0, 1) := by decide +kernel
theorem dX12_otherSide_40 : decode cX12_otherSide 40 = .ok (.getfield 28, 3) := by decide +kernel
theorem dX12_otherSide_43 : decode cX12_otherSide 43 = .ok (.iload_n 3, 1) := by decide +kernel
theorem dX12_otherSide_44 : decode cX12_otherSide 44 = .ok (.iaload, 1) := by decide +kernel
theorem dX12_otherSide_45 : decode cX12_otherSide 45 = .ok (.iload_n 2, 1) := by decide +kernel
theorem dX12_otherSide_46 : decode cX12_otherSide 46 = .ok (.if_icmp .eq 10, 3) := by decide +kernel
theorem dX12_otherSide_49 : decode cX12_otherSide 49 = .ok (.aload_n 0, 1) := by decide +kernel
theorem dX12_otherSide_50 : decode cX12_otherSide 50 = .ok (.getfield 28, 3) := by decide +kernel
theorem dX12_otherSide_53 : decode cX12_otherSide 53 = .ok (.iload_n 3, 1) := by decide +kernel
theorem dX12_otherSide_54 : decode cX12_otherSide 54 = .ok (.iaload, 1) := by decide +kernel
theorem dX12_otherSide_55 : decode cX12_otherSide 55 = .ok (.ireturn, 1) := by decide +kernel
theorem dX12_otherSide_56 : decode cX12_otherSide 56 = .ok (.iinc 3 1, 3) := by decide +kernel
theorem dX12_otherSide_59 : decode cX12_otherSide 59 = .ok (.goto (-57), 3) := by decide +kernel
theorem dX12_otherSide_62 : decode cX12_otherSide 62 = .ok (.bipush (-9), 2) := by decide +kernel
theorem dX12_otherSide_64 : decode cX12_otherSide 64 = .ok (.ireturn, 1) := by decide +kernel
theorem dX12_isSide_0 : decode cX12_isSide 0 = .ok (.iconst 0, 1) := by decide +kernel
theorem dX12_isSide_1 : decode cX12_isSide 1 = .ok (.istore_n 3, 1) := by decide +kernel
theorem dX12_isSide_2 : decode cX12_isSide 2 = .ok (.iload_n 3, 1) := by decide +kernel
theorem dX12_isSide_3 : decode cX12_isSide 3 = .ok (.aload_n 0, 1) := by decide +kernel
theorem dX12_isSide_4 : decode cX12_isSide 4 = .ok (.getfield 202, 3) := by decide +kernel
theorem dX12_isSide_7 : decode cX12_isSide 7 = .ok (.if_icmp .ge 50, 3) := by decide +kernel
theorem dX12_isSide_10 : decode cX12_isSide 10 = .ok (.aload_n 0, 1) := by decide +kernel
theorem dX12_isSide_11 : decode cX12_isSide 11 = .ok (.getfield 37, 3) := by decide +kernel
theorem dX12_isSide_14 : decode cX12_isSide 14 = .ok (.iload_n 3, 1) := by decide +kernel
theorem dX12_isSide_15 : decode cX12_isSide 15 = .ok (.baload, 1) := by decide +kernel
theorem dX12_isSide_16 : decode cX12_isSide 16 = .ok (.ifCond .eq 35, 3) := by decide +kernel
theorem dX12_isSide_19 : decode cX12_isSide 19 = .ok (.aload_n 0, 1) := by decide +kernel
theorem dX12_isSide_20 : decode cX12_isSide 20 = .ok (.getfield 25, 3) := by decide +kernel
theorem dX12_isSide_23 : decode cX12_isSide 23 = .ok (.iload_n 3, 1) := by decide +kernel
theorem dX12_isSide_24 : decode cX12_isSide 24 = .ok (.iaload, 1) := by decide +kernel
theorem dX12_isSide_25 : decode cX12_isSide 25 = .ok (.iconst 5, 1) := by decide +kernel
theorem dX12_isSide_26 : decode cX12_isSide 26 = .ok (.if_icmp .ne 25, 3) := by decide +kernel
theorem dX12_isSide_29 : decode cX12_isSide 29 = .ok (.aload_n 0, 1) := by decide +kernel
theorem dX12_isSide_30 : decode cX12_isSide 30 = .ok (.getfield 31, 3) := by decide +kernel
theorem dX12_isSide_33 : decode cX12_isSide 33 = .ok (.iload_n 3, 1) := by decide +kernel
theorem dX12_isSide_34 : decode cX12_isSide 34 = .ok (.iaload, 1) := by decide +kernel
theorem dX12_isSide_35 : decode cX12_isSide 35 = .ok (.iload_n 1, 1) := by decide +kernel
theorem dX12_isSide_36 : decode cX12_isSide 36 = .ok (.if_icmp .ne 15, 3) := by decide +kernel
theorem dX12_isSide_39 : decode cX12_isSide 39 = .ok (.aload_n 0, 1) := by decide +kernel
theorem dX12_isSide_40 : decode cX12_isSide 40 = .ok (.getfield 28, 3) := by decide +kernel
theorem dX12_isSide_43 : decode cX12_isSide 43 = .ok (.iload_n 3, 1) := by decide +kernel
theorem dX12_isSide_44 : decode cX12_isSide 44 = .ok (.iaload, 1) := by decide +kernel
theorem dX12_isSide_45 : decode cX12_isSide 45 = .ok (.iload_n 2, 1) := by decide +kernel
theorem dX12_isSide_46 : decode cX12_isSide 46 = .ok (.if_icmp .ne 5, 3) := by decide +kernel
theorem dX12_isSide_49 : decode cX12_isSide 49 = .ok (.iconst 1, 1) := by decide +kernel
theorem dX12_isSide_50 : decode cX12_isSide 50 = .ok (.ireturn, 1) := by decide +kernel
theorem dX12_isSide_51 : decode cX12_isSide 51 = .ok (.iinc 3 1, 3) := by decide +kernel
theorem dX12_isSide_54 : decode cX12_isSide 54 = .ok (.goto (-52), 3) := by decide +kernel
theorem dX12_isSide_57 : decode cX12_isSide 57 = .ok (.iconst 0, 1) := by decide +kernel
theorem dX12_isSide_58 : decode cX12_isSide 58 = .ok (.ireturn, 1) := by decide +kernel
theorem dX12_exit_0 : decode cX12_exit 0 = .ok (.aload_n 0, 1) := by decide +kernel
theorem dX12_exit_1 : decode cX12_exit 1 = .ok (.iload_n 1, 1) := by decide +kernel
theorem dX12_exit_2 : decode cX12_exit 2 = .ok (.invokevirtual 180, 3) := by decide +kernel
theorem dX12_exit_5 : decode cX12_exit 5 = .ok (.ifCond .eq 27, 3) := by decide +kernel
theorem dX12_exit_8 : decode cX12_exit 8 = .ok (.iload_n 2, 1) := by decide +kernel
theorem dX12_exit_9 : decode cX12_exit 9 = .ok (.i2l, 1) := by decide +kernel
theorem dX12_exit_10 : decode cX12_exit 10 = .ok (.lconst 0, 1) := by decide +kernel
theorem dX12_exit_11 : decode cX12_exit 11 = .ok (.ldc2_w 197, 3) := by decide +kernel
theorem dX12_exit_14 : decode cX12_exit 14 = .ok (.invokestatic 166, 3) := by decide +kernel
theorem dX12_exit_17 : decode cX12_exit 17 = .ok (.ifCond .eq 15, 3) := by decide +kernel
theorem dX12_exit_20 : decode cX12_exit 20 = .ok (.iload_n 3, 1) := by decide +kernel
theorem dX12_exit_21 : decode cX12_exit 21 = .ok (.i2l, 1) := by decide +kernel
theorem dX12_exit_22 : decode cX12_exit 22 = .ok (.lconst 0, 1) := by decide +kernel
theorem dX12_exit_23 : decode cX12_exit 23 = .ok (.ldc2_w 279, 3) := by decide +kernel
theorem dX12_exit_26 : decode cX12_exit 26 = .ok (.invokestatic 166, 3) := by decide +kernel
theorem dX12_exit_29 : decode cX12_exit 29 = .ok (.ifCond .ne 5, 3) := by decide +kernel
theorem dX12_exit_32 : decode cX12_exit 32 = .ok (.iconst (-1), 1) := by decide +kernel
theorem dX12_exit_33 : decode cX12_exit 33 = .ok (.ireturn, 1) := by decide +kernel
theorem dX12_exit_34 : decode cX12_exit 34 = .ok (.aload_n 0, 1) := by decide +kernel
theorem dX12_exit_35 : decode cX12_exit 35 = .ok (.iload_n 1, 1) := by decide +kernel
theorem dX12_exit_36 : decode cX12_exit 36 = .ok (.iconst 0, 1) := by decide +kernel
theorem dX12_exit_37 : decode cX12_exit 37 = .ok (.invokevirtual 184, 3) := by decide +kernel
theorem dX12_exit_40 : decode cX12_exit 40 = .ok (.ifCond .ne 9, 3) := by decide +kernel
theorem dX12_exit_43 : decode cX12_exit 43 = .ok (.aload_n 0, 1) := by decide +kernel
theorem dX12_exit_44 : decode cX12_exit 44 = .ok (.iconst 3, 1) := by decide +kernel
theorem dX12_exit_45 : decode cX12_exit 45 = .ok (.invokevirtual 233, 3) := by decide +kernel
theorem dX12_exit_48 : decode cX12_exit 48 = .ok (.ireturn, 1) := by decide +kernel
theorem dX12_exit_49 : decode cX12_exit 49 = .ok (.aload_n 0, 1) := by decide +kernel
theorem dX12_exit_50 : decode cX12_exit 50 = .ok (.iload_n 1, 1) := by decide +kernel
theorem dX12_exit_51 : decode cX12_exit 51 = .ok (.iload_n 2, 1) := by decide +kernel
theorem dX12_exit_52 : decode cX12_exit 52 = .ok (.invokevirtual 281, 3) := by decide +kernel
theorem dX12_exit_55 : decode cX12_exit 55 = .ok (.ifCond .ne 6, 3) := by decide +kernel
theorem dX12_exit_58 : decode cX12_exit 58 = .ok (.bipush (-9), 2) := by decide +kernel
theorem dX12_exit_60 : decode cX12_exit 60 = .ok (.ireturn, 1) := by decide +kernel
theorem dX12_exit_61 : decode cX12_exit 61 = .ok (.iload_n 3, 1) := by decide +kernel
theorem dX12_exit_62 : decode cX12_exit 62 = .ok (.ifCond .ne 10, 3) := by decide +kernel
theorem dX12_exit_65 : decode cX12_exit 65 = .ok (.aload_n 0, 1) := by decide +kernel
theorem dX12_exit_66 : decode cX12_exit 66 = .ok (.getfield 263, 3) := by decide +kernel
theorem dX12_exit_69 : decode cX12_exit 69 = .ok (.goto 39, 3) := by decide +kernel
theorem dX12_exit_72 : decode cX12_exit 72 = .ok (.iload_n 3, 1) := by decide +kernel
theorem dX12_exit_73 : decode cX12_exit 73 = .ok (.iconst 1, 1) := by decide +kernel
theorem dX12_exit_74 : decode cX12_exit 74 = .ok (.if_icmp .ne 10, 3) := by decide +kernel
theorem dX12_exit_77 : decode cX12_exit 77 = .ok (.aload_n 0, 1) := by decide +kernel
theorem dX12_exit_78 : decode cX12_exit 78 = .ok (.getfield 266, 3) := by decide +kernel
theorem dX12_exit_81 : decode cX12_exit 81 = .ok (.goto 27, 3) := by decide +kernel
theorem dX12_exit_84 : decode cX12_exit 84 = .ok (.iload_n 3, 1) := by decide +kernel
theorem dX12_exit_85 : decode cX12_exit 85 = .ok (.iconst 2, 1) := by decide +kernel
theorem dX12_exit_86 : decode cX12_exit 86 = .ok (.if_icmp .ne 10, 3) := by decide +kernel
theorem dX12_exit_89 : decode cX12_exit 89 = .ok (.aload_n 0, 1) := by decide +kernel
theorem dX12_exit_90 : decode cX12_exit 90 = .ok (.getfield 269, 3) := by decide +kernel
theorem dX12_exit_93 : decode cX12_exit 93 = .ok (.goto 15, 3) := by decide +kernel
theorem dX12_exit_96 : decode cX12_exit 96 = .ok (.aload_n 0, 1) := by decide +kernel
theorem dX12_exit_97 : decode cX12_exit 97 = .ok (.getfield 272, 3) := by decide +kernel
theorem dX12_exit_100 : decode cX12_exit 100 = .ok (.ifCond .eq 7, 3) := by decide +kernel
theorem dX12_exit_103 : decode cX12_exit 103 = .ok (.iconst 1, 1) := by decide +kernel
theorem dX12_exit_104 : decode cX12_exit 104 = .ok (.goto 4, 3) := by decide +kernel
theorem dX12_exit_107 : decode cX12_exit 107 = .ok (.iconst 0, 1) := by decide +kernel
theorem dX12_exit_108 : decode cX12_exit 108 = .ok (.ireturn, 1) := by decide +kernel
theorem dX12_walk_0 : decode cX12_walk 0 = .ok (.iconst 0, 1) := by decide +kernel
theorem dX12_walk_1 : decode cX12_walk 1 = .ok (.istore_n 3, 1) := by decide +kernel
theorem dX12_walk_2 : decode cX12_walk 2 = .ok (.iload_n 3, 1) := by decide +kernel
theorem dX12_walk_3 : decode cX12_walk 3 = .ok (.aload_n 0, 1) := by decide +kernel
theorem dX12_walk_4 : decode cX12_walk 4 = .ok (.getfield 177, 3) := by decide +kernel
theorem dX12_walk_7 : decode cX12_walk 7 = .ok (.if_icmp .ge 17, 3) := by decide +kernel
theorem dX12_walk_10 : decode cX12_walk 10 = .ok (.aload_n 0, 1) := by decide +kernel
theorem dX12_walk_11 : decode cX12_walk 11 = .ok (.getfield 44, 3) := by decide +kernel
theorem dX12_walk_14 : decode cX12_walk 14 = .ok (.iload_n 3, 1) := by decide +kernel
theorem dX12_walk_15 : decode cX12_walk 15 = .ok (.bipush (-9), 2) := by decide +kernel
theorem dX12_walk_17 : decode cX12_walk 17 = .ok (.iastore, 1) := by decide +kernel
theorem dX12_walk_18 : decode cX12_walk 18 = .ok (.iinc 3 1, 3) := by decide +kernel
theorem dX12_walk_21 : decode cX12_walk 21 = .ok (.goto (-19), 3) := by decide +kernel
theorem dX12_walk_24 : decode cX12_walk 24 = .ok (.aload_n 0, 1) := by decide +kernel
theorem dX12_walk_25 : decode cX12_walk 25 = .ok (.getfield 44, 3) := by decide +kernel
theorem dX12_walk_28 : decode cX12_walk 28 = .ok (.iload_n 1, 1) := by decide +kernel
theorem dX12_walk_29 : decode cX12_walk 29 = .ok (.iconst 0, 1) := by decide +kernel
theorem dX12_walk_30 : decode cX12_walk 30 = .ok (.iastore, 1) := by decide +kernel
theorem dX12_walk_31 : decode cX12_walk 31 = .ok (.aload_n 0, 1) := by decide +kernel
theorem dX12_walk_32 : decode cX12_walk 32 = .ok (.getfield 47, 3) := by decide +kernel
theorem dX12_walk_35 : decode cX12_walk 35 = .ok (.iconst 0, 1) := by decide +kernel
theorem dX12_walk_36 : decode cX12_walk 36 = .ok (.iload_n 1, 1) := by decide +kernel
theorem dX12_walk_37 : decode cX12_walk 37 = .ok (.iastore, 1) := by decide +kernel
theorem dX12_walk_38 : decode cX12_walk 38 = .ok (.iconst 1, 1) := by decide +kernel
theorem dX12_walk_39 : decode cX12_walk 39 = .ok (.istore_n 3, 1) := by decide +kernel
theorem dX12_walk_40 : decode cX12_walk 40 = .ok (.iconst 0, 1) := by decide +kernel
theorem dX12_walk_41 : decode cX12_walk 41 = .ok (.istore 4, 2) := by decide +kernel
theorem dX12_walk_43 : decode cX12_walk 43 = .ok (.iload 4, 2) := by decide +kernel
theorem dX12_walk_45 : decode cX12_walk 45 = .ok (.iload_n 3, 1) := by decide +kernel
theorem dX12_walk_46 : decode cX12_walk 46 = .ok (.if_icmp .ge 138, 3) := by decide +kernel
theorem dX12_walk_49 : decode cX12_walk 49 = .ok (.iconst 0, 1) := by decide +kernel
theorem dX12_walk_50 : decode cX12_walk 50 = .ok (.istore 5, 2) := by decide +kernel
theorem dX12_walk_52 : decode cX12_walk 52 = .ok (.iload 5, 2) := by decide +kernel
theorem dX12_walk_54 : decode cX12_walk 54 = .ok (.bipush 10, 2) := by decide +kernel
theorem dX12_walk_56 : decode cX12_walk 56 = .ok (.if_icmp .ge 122, 3) := by decide +kernel
theorem dX12_walk_59 : decode cX12_walk 59 = .ok (.aload_n 0, 1) := by decide +kernel
theorem dX12_walk_60 : decode cX12_walk 60 = .ok (.aload_n 0, 1) := by decide +kernel
theorem dX12_walk_61 : decode cX12_walk 61 = .ok (.getfield 47, 3) := by decide +kernel
theorem dX12_walk_64 : decode cX12_walk 64 = .ok (.iload 4, 2) := by decide +kernel
theorem dX12_walk_66 : decode cX12_walk 66 = .ok (.iaload, 1) := by decide +kernel
theorem dX12_walk_67 : decode cX12_walk 67 = .ok (.iload 5, 2) := by decide +kernel
theorem dX12_walk_69 : decode cX12_walk 69 = .ok (.invokevirtual 281, 3) := by decide +kernel
theorem dX12_walk_72 : decode cX12_walk 72 = .ok (.ifCond .eq 42, 3) := by decide +kernel
theorem dX12_walk_75 : decode cX12_walk 75 = .ok (.aload_n 0, 1) := by decide +kernel
theorem dX12_walk_76 : decode cX12_walk 76 = .ok (.getfield 263, 3) := by decide +kernel
theorem dX12_walk_79 : decode cX12_walk 79 = .ok (.bipush (-9), 2) := by decide +kernel
theorem dX12_walk_81 : decode cX12_walk 81 = .ok (.if_icmp .eq 33, 3) := by decide +kernel
theorem dX12_walk_84 : decode cX12_walk 84 = .ok (.iload_n 2, 1) := by decide +kernel
theorem dX12_walk_85 : decode cX12_walk 85 = .ok (.ifCond .eq 25, 3) := by decide +kernel
theorem dX12_walk_88 : decode cX12_walk 88 = .ok (.aload_n 0, 1) := by decide +kernel
theorem dX12_walk_89 : decode cX12_walk 89 = .ok (.getfield 266, 3) := by decide +kernel
theorem dX12_walk_92 : decode cX12_walk 92 = .ok (.bipush (-9), 2) := by decide +kernel
theorem dX12_walk_94 : decode cX12_walk 94 = .ok (.if_icmp .eq 16, 3) := by decide +kernel
theorem dX12_walk_97 : decode cX12_walk 97 = .ok (.aload_n 0, 1) := by decide +kernel
theorem dX12_walk_98 : decode cX12_walk 98 = .ok (.aload_n 0, 1) := by decide +kernel
theorem dX12_walk_99 : decode cX12_walk 99 = .ok (.getfield 266, 3) := by decide +kernel
theorem dX12_walk_102 : decode cX12_walk 102 = .ok (.iconst 0, 1) := by decide +kernel
theorem dX12_walk_103 : decode cX12_walk 103 = .ok (.invokevirtual 256, 3) := by decide +kernel
theorem dX12_walk_106 : decode cX12_walk 106 = .ok (.iconst 1, 1) := by decide +kernel
theorem dX12_walk_107 : decode cX12_walk 107 = .ok (.if_icmp .ne 7, 3) := by decide +kernel
theorem dX12_walk_110 : decode cX12_walk 110 = .ok (.iconst 1, 1) := by decide +kernel
theorem dX12_walk_111 : decode cX12_walk 111 = .ok (.goto 4, 3) := by decide +kernel
theorem dX12_walk_114 : decode cX12_walk 114 = .ok (.iconst 0, 1) := by decide +kernel
theorem dX12_walk_115 : decode cX12_walk 115 = .ok (.istore 6, 2) := by decide +kernel
theorem dX12_walk_117 : decode cX12_walk 117 = .ok (.iload 6, 2) := by decide +kernel
theorem dX12_walk_119 : decode cX12_walk 119 = .ok (.ifCond .eq 53, 3) := by decide +kernel
theorem dX12_walk_122 : decode cX12_walk 122 = .ok (.aload_n 0, 1) := by decide +kernel
theorem dX12_walk_123 : decode cX12_walk 123 = .ok (.getfield 44, 3) := by decide +kernel
theorem dX12_walk_126 : decode cX12_walk 126 = .ok (.aload_n 0, 1) := by decide +kernel
theorem dX12_walk_127 : decode cX12_walk 127 = .ok (.getfield 263, 3) := by decide +kernel
theorem dX12_walk_130 : decode cX12_walk 130 = .ok (.iaload, 1) := by decide +kernel
theorem dX12_walk_131 : decode cX12_walk 131 = .ok (.bipush (-9), 2) := by decide +kernel
theorem dX12_walk_133 : decode cX12_walk 133 = .ok (.if_icmp .ne 39, 3) := by decide +kernel
theorem dX12_walk_136 : decode cX12_walk 136 = .ok (.aload_n 0, 1) := by decide +kernel
theorem dX12_walk_137 : decode cX12_walk 137 = .ok (.getfield 44, 3) := by decide +kernel
theorem dX12_walk_140 : decode cX12_walk 140 = .ok (.aload_n 0, 1) := by decide +kernel
theorem dX12_walk_141 : decode cX12_walk 141 = .ok (.getfield 263, 3) := by decide +kernel
theorem dX12_walk_144 : decode cX12_walk 144 = .ok (.aload_n 0, 1) := by decide +kernel
theorem dX12_walk_145 : decode cX12_walk 145 = .ok (.getfield 44, 3) := by decide +kernel
theorem dX12_walk_148 : decode cX12_walk 148 = .ok (.aload_n 0, 1) := by decide +kernel
theorem dX12_walk_149 : decode cX12_walk 149 = .ok (.getfield 47, 3) := by decide +kernel
theorem dX12_walk_152 : decode cX12_walk 152 = .ok (.iload 4, 2) := by decide +kernel
theorem dX12_walk_154 : decode cX12_walk 154 = .ok (.iaload, 1) := by decide +kernel
theorem dX12_walk_155 : decode cX12_walk 155 = .ok (.iaload, 1) := by decide +kernel
theorem dX12_walk_156 : decode cX12_walk 156 = .ok (.iconst 1, 1) := by decide +kernel
theorem dX12_walk_157 : decode cX12_walk 157 = .ok (.iadd, 1) := by decide +kernel
theorem dX12_walk_158 : decode cX12_walk 158 = .ok (.iastore, 1) := by decide +kernel
theorem dX12_walk_159 : decode cX12_walk 159 = .ok (.aload_n 0, 1) := by decide +kernel
theorem dX12_walk_160 : decode cX12_walk 160 = .ok (.getfield 47, 3) := by decide +kernel
theorem dX12_walk_163 : decode cX12_walk 163 = .ok (.iload_n 3, 1) := by decide +kernel
theorem dX12_walk_164 : decode cX12_walk 164 = .ok (.aload_n 0, 1) := by decide +kernel
theorem dX12_walk_165 : decode cX12_walk 165 = .ok (.getfield 263, 3) := by decide +kernel
theorem dX12_walk_168 : decode cX12_walk 168 = .ok (.iastore, 1) := by decide +kernel
theorem dX12_walk_169 : decode cX12_walk 169 = .ok (.iinc 3 1, 3) := by decide +kernel
theorem dX12_walk_172 : decode cX12_walk 172 = .ok (.iinc 5 1, 3) := by decide +kernel
theorem dX12_walk_175 : decode cX12_walk 175 = .ok (.goto (-123), 3) := by decide +kernel
theorem dX12_walk_178 : decode cX12_walk 178 = .ok (.iinc 4 1, 3) := by decide +kernel
theorem dX12_walk_181 : decode cX12_walk 181 = .ok (.goto (-138), 3) := by decide +kernel
theorem dX12_walk_184 : decode cX12_walk 184 = .ok (.return_, 1) := by decide +kernel
theorem dX12_wayRefused_0 : decode cX12_wayRefused 0 = .ok (.aload_n 0, 1) := by decide +kernel
theorem dX12_wayRefused_1 : decode cX12_wayRefused 1 = .ok (.iload_n 1, 1) := by decide +kernel
theorem dX12_wayRefused_2 : decode cX12_wayRefused 2 = .ok (.invokevirtual 180, 3) := by decide +kernel
theorem dX12_wayRefused_5 : decode cX12_wayRefused 5 = .ok (.ifCond .eq 11, 3) := by decide +kernel
theorem dX12_wayRefused_8 : decode cX12_wayRefused 8 = .ok (.aload_n 0, 1) := by decide +kernel
theorem dX12_wayRefused_9 : decode cX12_wayRefused 9 = .ok (.iload_n 2, 1) := by decide +kernel
theorem dX12_wayRefused_10 : decode cX12_wayRefused 10 = .ok (.invokevirtual 180, 3) := by decide +kernel
theorem dX12_wayRefused_13 : decode cX12_wayRefused 13 = .ok (.ifCond .ne 7, 3) := by decide +kernel
theorem dX12_wayRefused_16 : decode cX12_wayRefused 16 = .ok (.iconst (-1), 1) := by decide +kernel
theorem dX12_wayRefused_17 : decode cX12_wayRefused 17 = .ok (.goto 30, 3) := by decide +kernel
theorem dX12_wayRefused_20 : decode cX12_wayRefused 20 = .ok (.aload_n 0, 1) := by decide +kernel
theorem dX12_wayRefused_21 : decode cX12_wayRefused 21 = .ok (.iload_n 1, 1) := by decide +kernel
theorem dX12_wayRefused_22 : decode cX12_wayRefused 22 = .ok (.iconst 0, 1) := by decide +kernel
theorem dX12_wayRefused_23 : decode cX12_wayRefused 23 = .ok (.invokevirtual 184, 3) := by decide +kernel
theorem dX12_wayRefused_26 : decode cX12_wayRefused 26 = .ok (.ifCond .eq 12, 3) := by decide +kernel
theorem dX12_wayRefused_29 : decode cX12_wayRefused 29 = .ok (.aload_n 0, 1) := by decide +kernel
theorem dX12_wayRefused_30 : decode cX12_wayRefused 30 = .ok (.iload_n 2, 1) := by decide +kernel
theorem dX12_wayRefused_31 : decode cX12_wayRefused 31 = .ok (.iconst 0, 1) := by decide +kernel
theorem dX12_wayRefused_32 : decode cX12_wayRefused 32 = .ok (.invokevirtual 184, 3) := by decide +kernel
theorem dX12_wayRefused_35 : decode cX12_wayRefused 35 = .ok (.ifCond .ne 11, 3) := by decide +kernel
theorem dX12_wayRefused_38 : decode cX12_wayRefused 38 = .ok (.aload_n 0, 1) := by decide +kernel
theorem dX12_wayRefused_39 : decode cX12_wayRefused 39 = .ok (.iconst 3, 1) := by decide +kernel
theorem dX12_wayRefused_40 : decode cX12_wayRefused 40 = .ok (.invokevirtual 233, 3) := by decide +kernel
theorem dX12_wayRefused_43 : decode cX12_wayRefused 43 = .ok (.goto 4, 3) := by decide +kernel
theorem dX12_wayRefused_46 : decode cX12_wayRefused 46 = .ok (.iconst 0, 1) := by decide +kernel
theorem dX12_wayRefused_47 : decode cX12_wayRefused 47 = .ok (.ireturn, 1) := by decide +kernel
theorem dX12_way_0 : decode cX12_way 0 = .ok (.aload_n 0, 1) := by decide +kernel
theorem dX12_way_1 : decode cX12_way 1 = .ok (.iload_n 1, 1) := by decide +kernel
theorem dX12_way_2 : decode cX12_way 2 = .ok (.iload_n 2, 1) := by decide +kernel
theorem dX12_way_3 : decode cX12_way 3 = .ok (.invokevirtual 284, 3) := by decide +kernel
theorem dX12_way_6 : decode cX12_way 6 = .ok (.istore 4, 2) := by decide +kernel
theorem dX12_way_8 : decode cX12_way 8 = .ok (.iload 4, 2) := by decide +kernel
theorem dX12_way_10 : decode cX12_way 10 = .ok (.ifCond .ge 6, 3) := by decide +kernel
theorem dX12_way_13 : decode cX12_way 13 = .ok (.iload 4, 2) := by decide +kernel
theorem dX12_way_15 : decode cX12_way 15 = .ok (.ireturn, 1) := by decide +kernel
theorem dX12_way_16 : decode cX12_way 16 = .ok (.aload_n 0, 1) := by decide +kernel
theorem dX12_way_17 : decode cX12_way 17 = .ok (.iload_n 1, 1) := by decide +kernel
theorem dX12_way_18 : decode cX12_way 18 = .ok (.iload_n 3, 1) := by decide +kernel
theorem dX12_way_19 : decode cX12_way 19 = .ok (.invokevirtual 287, 3) := by decide +kernel
theorem dX12_way_22 : decode cX12_way 22 = .ok (.aload_n 0, 1) := by decide +kernel
theorem dX12_way_23 : decode cX12_way 23 = .ok (.getfield 44, 3) := by decide +kernel
theorem dX12_way_26 : decode cX12_way 26 = .ok (.iload_n 2, 1) := by decide +kernel
theorem dX12_way_27 : decode cX12_way 27 = .ok (.iaload, 1) := by decide +kernel
theorem dX12_way_28 : decode cX12_way 28 = .ok (.ireturn, 1) := by decide +kernel
theorem dX12_toward_0 : decode cX12_toward 0 = .ok (.aload_n 0, 1) := by decide +kernel
theorem dX12_toward_1 : decode cX12_toward 1 = .ok (.iload_n 1, 1) := by decide +kernel
theorem dX12_toward_2 : decode cX12_toward 2 = .ok (.iload_n 2, 1) := by decide +kernel
theorem dX12_toward_3 : decode cX12_toward 3 = .ok (.invokevirtual 284, 3) := by decide +kernel
theorem dX12_toward_6 : decode cX12_toward 6 = .ok (.istore 4, 2) := by decide +kernel
theorem dX12_toward_8 : decode cX12_toward 8 = .ok (.iload 4, 2) := by decide +kernel
theorem dX12_toward_10 : decode cX12_toward 10 = .ok (.ifCond .ge 6, 3) := by decide +kernel
theorem dX12_toward_13 : decode cX12_toward 13 = .ok (.iload 4, 2) := by decide +kernel
theorem dX12_toward_15 : decode cX12_toward 15 = .ok (.ireturn, 1) := by decide +kernel
theorem dX12_toward_16 : decode cX12_toward 16 = .ok (.aload_n 0, 1) := by decide +kernel
theorem dX12_toward_17 : decode cX12_toward 17 = .ok (.iload_n 1, 1) := by decide +kernel
theorem dX12_toward_18 : decode cX12_toward 18 = .ok (.iload_n 3, 1) := by decide +kernel
theorem dX12_toward_19 : decode cX12_toward 19 = .ok (.invokevirtual 287, 3) := by decide +kernel
theorem dX12_toward_22 : decode cX12_toward 22 = .ok (.aload_n 0, 1) := by decide +kernel
theorem dX12_toward_23 : decode cX12_toward 23 = .ok (.getfield 44, 3) := by decide +kernel
theorem dX12_toward_26 : decode cX12_toward 26 = .ok (.iload_n 2, 1) := by decide +kernel
theorem dX12_toward_27 : decode cX12_toward 27 = .ok (.iaload, 1) := by decide +kernel
theorem dX12_toward_28 : decode cX12_toward 28 = .ok (.istore 5, 2) := by decide +kernel
theorem dX12_toward_30 : decode cX12_toward 30 = .ok (.iload 5, 2) := by decide +kernel
theorem dX12_toward_32 : decode cX12_toward 32 = .ok (.bipush (-9), 2) := by decide +kernel
theorem dX12_toward_34 : decode cX12_toward 34 = .ok (.if_icmp .eq 8, 3) := by decide +kernel
theorem dX12_toward_37 : decode cX12_toward 37 = .ok (.iload 5, 2) := by decide +kernel
theorem dX12_toward_39 : decode cX12_toward 39 = .ok (.ifCond .ne 6, 3) := by decide +kernel
theorem dX12_toward_42 : decode cX12_toward 42 = .ok (.bipush (-9), 2) := by decide +kernel
theorem dX12_toward_44 : decode cX12_toward 44 = .ok (.ireturn, 1) := by decide +kernel
theorem dX12_toward_45 : decode cX12_toward 45 = .ok (.iconst 0, 1) := by decide +kernel
theorem dX12_toward_46 : decode cX12_toward 46 = .ok (.istore 6, 2) := by decide +kernel
theorem dX12_toward_48 : decode cX12_toward 48 = .ok (.iload 6, 2) := by decide +kernel
theorem dX12_toward_50 : decode cX12_toward 50 = .ok (.bipush 10, 2) := by decide +kernel
theorem dX12_toward_52 : decode cX12_toward 52 = .ok (.if_icmp .ge 95, 3) := by decide +kernel
theorem dX12_toward_55 : decode cX12_toward 55 = .ok (.aload_n 0, 1) := by decide +kernel
theorem dX12_toward_56 : decode cX12_toward 56 = .ok (.iload_n 1, 1) := by decide +kernel
theorem dX12_toward_57 : decode cX12_toward 57 = .ok (.iload 6, 2) := by decide +kernel
theorem dX12_toward_59 : decode cX12_toward 59 = .ok (.invokevirtual 281, 3) := by decide +kernel
theorem dX12_toward_62 : decode cX12_toward 62 = .ok (.ifCond .eq 42, 3) := by decide +kernel
theorem dX12_toward_65 : decode cX12_toward 65 = .ok (.aload_n 0, 1) := by decide +kernel
theorem dX12_toward_66 : decode cX12_toward 66 = .ok (.getfield 263, 3) := by decide +kernel
theorem dX12_toward_69 : decode cX12_toward 69 = .ok (.bipush (-9), 2) := by decide +kernel
theorem dX12_toward_71 : decode cX12_toward 71 = .ok (.if_icmp .eq 33, 3) := by decide +kernel
theorem dX12_toward_74 : decode cX12_toward 74 = .ok (.iload_n 3, 1) := by decide +kernel
theorem dX12_toward_75 : decode cX12_toward 75 = .ok (.ifCond .eq 25, 3) := by decide +kernel
theorem dX12_toward_78 : decode cX12_toward 78 = .ok (.aload_n 0, 1) := by decide +kernel
theorem dX12_toward_79 : decode cX12_toward 79 = .ok (.getfield 266, 3) := by decide +kernel
theorem dX12_toward_82 : decode cX12_toward 82 = .ok (.bipush (-9), 2) := by decide +kernel
theorem dX12_toward_84 : decode cX12_toward 84 = .ok (.if_icmp .eq 16, 3) := by decide +kernel
theorem dX12_toward_87 : decode cX12_toward 87 = .ok (.aload_n 0, 1) := by decide +kernel
theorem dX12_toward_88 : decode cX12_toward 88 = .ok (.aload_n 0, 1) := by decide +kernel
theorem dX12_toward_89 : decode cX12_toward 89 = .ok (.getfield 266, 3) := by decide +kernel
theorem dX12_toward_92 : decode cX12_toward 92 = .ok (.iconst 0, 1) := by decide +kernel
theorem dX12_toward_93 : decode cX12_toward 93 = .ok (.invokevirtual 256, 3) := by decide +kernel
theorem dX12_toward_96 : decode cX12_toward 96 = .ok (.iconst 1, 1) := by decide +kernel
theorem dX12_toward_97 : decode cX12_toward 97 = .ok (.if_icmp .ne 7, 3) := by decide +kernel
theorem dX12_toward_100 : decode cX12_toward 100 = .ok (.iconst 1, 1) := by decide +kernel
theorem dX12_toward_101 : decode cX12_toward 101 = .ok (.goto 4, 3) := by decide +kernel
theorem dX12_toward_104 : decode cX12_toward 104 = .ok (.iconst 0, 1) := by decide +kernel
theorem dX12_toward_105 : decode cX12_toward 105 = .ok (.istore 7, 2) := by decide +kernel
theorem dX12_toward_107 : decode cX12_toward 107 = .ok (.aload_n 0, 1) := by decide +kernel
theorem dX12_toward_108 : decode cX12_toward 108 = .ok (.getfield 263, 3) := by decide +kernel
theorem dX12_toward_111 : decode cX12_toward 111 = .ok (.istore 8, 2) := by decide +kernel
theorem dX12_toward_113 : decode cX12_toward 113 = .ok (.iload 7, 2) := by decide +kernel
theorem dX12_toward_115 : decode cX12_toward 115 = .ok (.ifCond .eq 26, 3) := by decide +kernel
theorem dX12_toward_118 : decode cX12_toward 118 = .ok (.aload_n 0, 1) := by decide +kernel
theorem dX12_toward_119 : decode cX12_toward 119 = .ok (.iload 8, 2) := by decide +kernel
theorem dX12_toward_121 : decode cX12_toward 121 = .ok (.iload_n 3, 1) := by decide +kernel
theorem dX12_toward_122 : decode cX12_toward 122 = .ok (.invokevirtual 287, 3) := by decide +kernel
theorem dX12_toward_125 : decode cX12_toward 125 = .ok (.aload_n 0, 1) := by decide +kernel
theorem dX12_toward_126 : decode cX12_toward 126 = .ok (.getfield 44, 3) := by decide +kernel
theorem dX12_toward_129 : decode cX12_toward 129 = .ok (.iload_n 2, 1) := by decide +kernel
theorem dX12_toward_130 : decode cX12_toward 130 = .ok (.iaload, 1) := by decide +kernel
theorem dX12_toward_131 : decode cX12_toward 131 = .ok (.iload 5, 2) := by decide +kernel
theorem dX12_toward_133 : decode cX12_toward 133 = .ok (.iconst 1, 1) := by decide +kernel
theorem dX12_toward_134 : decode cX12_toward 134 = .ok (.isub, 1) := by decide +kernel
theorem dX12_toward_135 : decode cX12_toward 135 = .ok (.if_icmp .ne 6, 3) := by decide +kernel
theorem dX12_toward_138 : decode cX12_toward 138 = .ok (.iload 6, 2) := by decide +kernel
theorem dX12_toward_140 : decode cX12_toward 140 = .ok (.ireturn, 1) := by decide +kernel
theorem dX12_toward_141 : decode cX12_toward 141 = .ok (.iinc 6 1, 3) := by decide +kernel
theorem dX12_toward_144 : decode cX12_toward 144 = .ok (.goto (-96), 3) := by decide +kernel
theorem dX12_toward_147 : decode cX12_toward 147 = .ok (.bipush (-9), 2) := by decide +kernel
theorem dX12_toward_149 : decode cX12_toward 149 = .ok (.ireturn, 1) := by decide +kernel
theorem dX12_endTale_0 : decode cX12_endTale 0 = .ok (.aload_n 0, 1) := by decide +kernel
theorem dX12_endTale_1 : decode cX12_endTale 1 = .ok (.bipush (-9), 2) := by decide +kernel
theorem dX12_endTale_3 : decode cX12_endTale 3 = .ok (.putfield 155, 3) := by decide +kernel
theorem dX12_endTale_6 : decode cX12_endTale 6 = .ok (.aload_n 0, 1) := by decide +kernel
theorem dX12_endTale_7 : decode cX12_endTale 7 = .ok (.iconst 0, 1) := by decide +kernel
theorem dX12_endTale_8 : decode cX12_endTale 8 = .ok (.putfield 291, 3) := by decide +kernel
theorem dX12_endTale_11 : decode cX12_endTale 11 = .ok (.return_, 1) := by decide +kernel
theorem dX12_formNow_0 : decode cX12_formNow 0 = .ok (.aload_n 0, 1) := by decide +kernel
theorem dX12_formNow_1 : decode cX12_formNow 1 = .ok (.getfield 155, 3) := by decide +kernel
theorem dX12_formNow_4 : decode cX12_formNow 4 = .ok (.bipush (-9), 2) := by decide +kernel
theorem dX12_formNow_6 : decode cX12_formNow 6 = .ok (.if_icmp .eq 10, 3) := by decide +kernel
theorem dX12_formNow_9 : decode cX12_formNow 9 = .ok (.aload_n 0, 1) := by decide +kernel
theorem dX12_formNow_10 : decode cX12_formNow 10 = .ok (.getfield 50, 3) := by decide +kernel
theorem dX12_formNow_13 : decode cX12_formNow 13 = .ok (.iload_n 1, 1) := by decide +kernel
theorem dX12_formNow_14 : decode cX12_formNow 14 = .ok (.iaload, 1) := by decide +kernel
theorem dX12_formNow_15 : decode cX12_formNow 15 = .ok (.ireturn, 1) := by decide +kernel
theorem dX12_formNow_16 : decode cX12_formNow 16 = .ok (.aload_n 0, 1) := by decide +kernel
theorem dX12_formNow_17 : decode cX12_formNow 17 = .ok (.iload_n 1, 1) := by decide +kernel
theorem dX12_formNow_18 : decode cX12_formNow 18 = .ok (.invokevirtual 208, 3) := by decide +kernel
theorem dX12_formNow_21 : decode cX12_formNow 21 = .ok (.istore_n 2, 1) := by decide +kernel
theorem dX12_formNow_22 : decode cX12_formNow 22 = .ok (.iload_n 2, 1) := by decide +kernel
theorem dX12_formNow_23 : decode cX12_formNow 23 = .ok (.bipush (-9), 2) := by decide +kernel
theorem dX12_formNow_25 : decode cX12_formNow 25 = .ok (.if_icmp .ne 8, 3) := by decide +kernel
theorem dX12_formNow_28 : decode cX12_formNow 28 = .ok (.bipush (-9), 2) := by decide +kernel
theorem dX12_formNow_30 : decode cX12_formNow 30 = .ok (.goto 9, 3) := by decide +kernel
theorem dX12_formNow_33 : decode cX12_formNow 33 = .ok (.aload_n 0, 1) := by decide +kernel
theorem dX12_formNow_34 : decode cX12_formNow 34 = .ok (.getfield 25, 3) := by decide +kernel
theorem dX12_formNow_37 : decode cX12_formNow 37 = .ok (.iload_n 2, 1) := by decide +kernel
theorem dX12_formNow_38 : decode cX12_formNow 38 = .ok (.iaload, 1) := by decide +kernel
theorem dX12_formNow_39 : decode cX12_formNow 39 = .ok (.ireturn, 1) := by decide +kernel
theorem dX12_atNow_0 : decode cX12_atNow 0 = .ok (.aload_n 0, 1) := by decide +kernel
theorem dX12_atNow_1 : decode cX12_atNow 1 = .ok (.getfield 155, 3) := by decide +kernel
theorem dX12_atNow_4 : decode cX12_atNow 4 = .ok (.bipush (-9), 2) := by decide +kernel
theorem dX12_atNow_6 : decode cX12_atNow 6 = .ok (.if_icmp .eq 10, 3) := by decide +kernel
theorem dX12_atNow_9 : decode cX12_atNow 9 = .ok (.aload_n 0, 1) := by decide +kernel
theorem dX12_atNow_10 : decode cX12_atNow 10 = .ok (.getfield 53, 3) := by decide +kernel
theorem dX12_atNow_13 : decode cX12_atNow 13 = .ok (.iload_n 1, 1) := by decide +kernel
theorem dX12_atNow_14 : decode cX12_atNow 14 = .ok (.iaload, 1) := by decide +kernel
theorem dX12_atNow_15 : decode cX12_atNow 15 = .ok (.ireturn, 1) := by decide +kernel
theorem dX12_atNow_16 : decode cX12_atNow 16 = .ok (.aload_n 0, 1) := by decide +kernel
theorem dX12_atNow_17 : decode cX12_atNow 17 = .ok (.iload_n 1, 1) := by decide +kernel
theorem dX12_atNow_18 : decode cX12_atNow 18 = .ok (.invokevirtual 208, 3) := by decide +kernel
theorem dX12_atNow_21 : decode cX12_atNow 21 = .ok (.istore_n 2, 1) := by decide +kernel
theorem dX12_atNow_22 : decode cX12_atNow 22 = .ok (.iload_n 2, 1) := by decide +kernel
theorem dX12_atNow_23 : decode cX12_atNow 23 = .ok (.bipush (-9), 2) := by decide +kernel
theorem dX12_atNow_25 : decode cX12_atNow 25 = .ok (.if_icmp .ne 8, 3) := by decide +kernel
theorem dX12_atNow_28 : decode cX12_atNow 28 = .ok (.bipush (-9), 2) := by decide +kernel
theorem dX12_atNow_30 : decode cX12_atNow 30 = .ok (.goto 9, 3) := by decide +kernel
theorem dX12_atNow_33 : decode cX12_atNow 33 = .ok (.aload_n 0, 1) := by decide +kernel
theorem dX12_atNow_34 : decode cX12_atNow 34 = .ok (.getfield 31, 3) := by decide +kernel
theorem dX12_atNow_37 : decode cX12_atNow 37 = .ok (.iload_n 2, 1) := by decide +kernel
theorem dX12_atNow_38 : decode cX12_atNow 38 = .ok (.iaload, 1) := by decide +kernel
theorem dX12_atNow_39 : decode cX12_atNow 39 = .ok (.ireturn, 1) := by decide +kernel
theorem dX12_body_0 : decode cX12_body 0 = .ok (.aload_n 0, 1) := by decide +kernel
theorem dX12_body_1 : decode cX12_body 1 = .ok (.getfield 294, 3) := by decide +kernel
theorem dX12_body_4 : decode cX12_body 4 = .ok (.ifCond .eq 32, 3) := by decide +kernel
theorem dX12_body_7 : decode cX12_body 7 = .ok (.aload_n 0, 1) := by decide +kernel
theorem dX12_body_8 : decode cX12_body 8 = .ok (.getfield 297, 3) := by decide +kernel
theorem dX12_body_11 : decode cX12_body 11 = .ok (.bipush 100, 2) := by decide +kernel
theorem dX12_body_13 : decode cX12_body 13 = .ok (.if_icmp .ge 23, 3) := by decide +kernel
theorem dX12_body_16 : decode cX12_body 16 = .ok (.aload_n 0, 1) := by decide +kernel
theorem dX12_body_17 : decode cX12_body 17 = .ok (.getfield 77, 3) := by decide +kernel
theorem dX12_body_20 : decode cX12_body 20 = .ok (.aload_n 0, 1) := by decide +kernel
theorem dX12_body_21 : decode cX12_body 21 = .ok (.getfield 297, 3) := by decide +kernel
theorem dX12_body_24 : decode cX12_body 24 = .ok (.iload_n 1, 1) := by decide +kernel
theorem dX12_body_25 : decode cX12_body 25 = .ok (.iastore, 1) := by decide +kernel
theorem dX12_body_26 : decode cX12_body 26 = .ok (.aload_n 0, 1) := by decide +kernel
theorem dX12_body_27 : decode cX12_body 27 = .ok (.dup, 1) := by decide +kernel
theorem dX12_body_28 : decode cX12_body 28 = .ok (.getfield 297, 3) := by decide +kernel
theorem dX12_body_31 : decode cX12_body 31 = .ok (.iconst 1, 1) := by decide +kernel
theorem dX12_body_32 : decode cX12_body 32 = .ok (.iadd, 1) := by decide +kernel
theorem dX12_body_33 : decode cX12_body 33 = .ok (.putfield 297, 3) := by decide +kernel
theorem dX12_body_36 : decode cX12_body 36 = .ok (.return_, 1) := by decide +kernel
theorem dX12_bulkOf_0 : decode cX12_bulkOf 0 = .ok (.aload_n 0, 1) := by decide +kernel
theorem dX12_bulkOf_1 : decode cX12_bulkOf 1 = .ok (.iload_n 1, 1) := by decide +kernel
theorem dX12_bulkOf_2 : decode cX12_bulkOf 2 = .ok (.iconst 2, 1) := by decide +kernel
theorem dX12_bulkOf_3 : decode cX12_bulkOf 3 = .ok (.invokevirtual 184, 3) := by decide +kernel
theorem dX12_bulkOf_6 : decode cX12_bulkOf 6 = .ok (.ifCond .eq 59, 3) := by decide +kernel
theorem dX12_bulkOf_9 : decode cX12_bulkOf 9 = .ok (.aload_n 0, 1) := by decide +kernel
theorem dX12_bulkOf_10 : decode cX12_bulkOf 10 = .ok (.iconst 4, 1) := by decide +kernel
theorem dX12_bulkOf_11 : decode cX12_bulkOf 11 = .ok (.invokevirtual 300, 3) := by decide +kernel
theorem dX12_bulkOf_14 : decode cX12_bulkOf 14 = .ok (.aload_n 0, 1) := by decide +kernel
theorem dX12_bulkOf_15 : decode cX12_bulkOf 15 = .ok (.iconst 1, 1) := by decide +kernel
theorem dX12_bulkOf_16 : decode cX12_bulkOf 16 = .ok (.invokevirtual 300, 3) := by decide +kernel
theorem dX12_bulkOf_19 : decode cX12_bulkOf 19 = .ok (.aload_n 0, 1) := by decide +kernel
theorem dX12_bulkOf_20 : decode cX12_bulkOf 20 = .ok (.dup, 1) := by decide +kernel
theorem dX12_bulkOf_21 : decode cX12_bulkOf 21 = .ok (.getfield 303, 3) := by decide +kernel
theorem dX12_bulkOf_24 : decode cX12_bulkOf 24 = .ok (.aload_n 0, 1) := by decide +kernel
theorem dX12_bulkOf_25 : decode cX12_bulkOf 25 = .ok (.getfield 22, 3) := by decide +kernel
theorem dX12_bulkOf_28 : decode cX12_bulkOf 28 = .ok (.iload_n 1, 1) := by decide +kernel
theorem dX12_bulkOf_29 : decode cX12_bulkOf 29 = .ok (.iaload, 1) := by decide +kernel
theorem dX12_bulkOf_30 : decode cX12_bulkOf 30 = .ok (.ifCond .ne 7, 3) := by decide +kernel
theorem dX12_bulkOf_33 : decode cX12_bulkOf 33 = .ok (.iconst 1, 1) := by decide +kernel
theorem dX12_bulkOf_34 : decode cX12_bulkOf 34 = .ok (.goto 4, 3) := by decide +kernel
theorem dX12_bulkOf_37 : decode cX12_bulkOf 37 = .ok (.iconst 0, 1) := by decide +kernel
theorem dX12_bulkOf_38 : decode cX12_bulkOf 38 = .ok (.ior, 1) := by decide +kernel
theorem dX12_bulkOf_39 : decode cX12_bulkOf 39 = .ok (.putfield 303, 3) := by decide +kernel
theorem dX12_bulkOf_42 : decode cX12_bulkOf 42 = .ok (.aload_n 0, 1) := by decide +kernel
theorem dX12_bulkOf_43 : decode cX12_bulkOf 43 = .ok (.getfield 22, 3) := by decide +kernel
theorem dX12_bulkOf_46 : decode cX12_bulkOf 46 = .ok (.iload_n 1, 1) := by decide +kernel
theorem dX12_bulkOf_47 : decode cX12_bulkOf 47 = .ok (.iaload, 1) := by decide +kernel
theorem dX12_bulkOf_48 : decode cX12_bulkOf 48 = .ok (.ifCond .ne 7, 3) := by decide +kernel
theorem dX12_bulkOf_51 : decode cX12_bulkOf 51 = .ok (.iconst 0, 1) := by decide +kernel
theorem dX12_bulkOf_52 : decode cX12_bulkOf 52 = .ok (.goto 12, 3) := by decide +kernel
theorem dX12_bulkOf_55 : decode cX12_bulkOf 55 = .ok (.bipush 100, 2) := by decide +kernel
theorem dX12_bulkOf_57 : decode cX12_bulkOf 57 = .ok (.aload_n 0, 1) := by decide +kernel
theorem dX12_bulkOf_58 : decode cX12_bulkOf 58 = .ok (.getfield 22, 3) := by decide +kernel
theorem dX12_bulkOf_61 : decode cX12_bulkOf 61 = .ok (.iload_n 1, 1) := by decide +kernel
theorem dX12_bulkOf_62 : decode cX12_bulkOf 62 = .ok (.iaload, 1) := by decide +kernel
theorem dX12_bulkOf_63 : decode cX12_bulkOf 63 = .ok (.idiv, 1) := by decide +kernel
theorem dX12_bulkOf_64 : decode cX12_bulkOf 64 = .ok (.ireturn, 1) := by decide +kernel
theorem dX12_bulkOf_65 : decode cX12_bulkOf 65 = .ok (.aload_n 0, 1) := by decide +kernel
theorem dX12_bulkOf_66 : decode cX12_bulkOf 66 = .ok (.iconst 0, 1) := by decide +kernel
theorem dX12_bulkOf_67 : decode cX12_bulkOf 67 = .ok (.iload_n 1, 1) := by decide +kernel
theorem dX12_bulkOf_68 : decode cX12_bulkOf 68 = .ok (.invokevirtual 306, 3) := by decide +kernel
theorem dX12_bulkOf_71 : decode cX12_bulkOf 71 = .ok (.istore_n 2, 1) := by decide +kernel
theorem dX12_bulkOf_72 : decode cX12_bulkOf 72 = .ok (.iconst 0, 1) := by decide +kernel
theorem dX12_bulkOf_73 : decode cX12_bulkOf 73 = .ok (.istore_n 3, 1) := by decide +kernel
theorem dX12_bulkOf_74 : decode cX12_bulkOf 74 = .ok (.iload_n 3, 1) := by decide +kernel
theorem dX12_bulkOf_75 : decode cX12_bulkOf 75 = .ok (.ifCond .lt 137, 3) := by decide +kernel
theorem dX12_bulkOf_78 : decode cX12_bulkOf 78 = .ok (.aload_n 0, 1) := by decide +kernel
theorem dX12_bulkOf_79 : decode cX12_bulkOf 79 = .ok (.aload_n 0, 1) := by decide +kernel
theorem dX12_bulkOf_80 : decode cX12_bulkOf 80 = .ok (.getfield 80, 3) := by decide +kernel
theorem dX12_bulkOf_83 : decode cX12_bulkOf 83 = .ok (.iload_n 3, 1) := by decide +kernel
theorem dX12_bulkOf_84 : decode cX12_bulkOf 84 = .ok (.iaload, 1) := by decide +kernel
theorem dX12_bulkOf_85 : decode cX12_bulkOf 85 = .ok (.iconst 3, 1) := by decide +kernel
theorem dX12_bulkOf_86 : decode cX12_bulkOf 86 = .ok (.invokevirtual 184, 3) := by decide +kernel
theorem dX12_bulkOf_89 : decode cX12_bulkOf 89 = .ok (.ifCond .eq 7, 3) := by decide +kernel
theorem dX12_bulkOf_92 : decode cX12_bulkOf 92 = .ok (.iconst 0, 1) := by decide +kernel
theorem dX12_bulkOf_93 : decode cX12_bulkOf 93 = .ok (.goto 23, 3) := by decide +kernel
theorem dX12_bulkOf_96 : decode cX12_bulkOf 96 = .ok (.aload_n 0, 1) := by decide +kernel
theorem dX12_bulkOf_97 : decode cX12_bulkOf 97 = .ok (.aload_n 0, 1) := by decide +kernel
theorem dX12_bulkOf_98 : decode cX12_bulkOf 98 = .ok (.getfield 80, 3) := by decide +kernel
theorem dX12_bulkOf_101 : decode cX12_bulkOf 101 = .ok (.iload_n 3, 1) := by decide +kernel
theorem dX12_bulkOf_102 : decode cX12_bulkOf 102 = .ok (.iaload, 1) := by decide +kernel
theorem dX12_bulkOf_103 : decode cX12_bulkOf 103 = .ok (.iconst 4, 1) := by decide +kernel
