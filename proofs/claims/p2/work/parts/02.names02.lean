theorem dX12_findExit_19 : decode cX12_findExit 19 = .ok (.iconst 0, 1) := by decide +kernel
theorem dX12_findExit_20 : decode cX12_findExit 20 = .ok (.putfield 272, 3) := by decide +kernel
theorem dX12_findExit_23 : decode cX12_findExit 23 = .ok (.iload_n 2, 1) := by decide +kernel
theorem dX12_findExit_24 : decode cX12_findExit 24 = .ok (.iconst 2, 1) := by decide +kernel
theorem dX12_findExit_25 : decode cX12_findExit 25 = .ok (.irem, 1) := by decide +kernel
theorem dX12_findExit_26 : decode cX12_findExit 26 = .ok (.ifCond .ne 9, 3) := by decide +kernel
theorem dX12_findExit_29 : decode cX12_findExit 29 = .ok (.iload_n 2, 1) := by decide +kernel
theorem dX12_findExit_30 : decode cX12_findExit 30 = .ok (.iconst 1, 1) := by decide +kernel
theorem dX12_findExit_31 : decode cX12_findExit 31 = .ok (.iadd, 1) := by decide +kernel
theorem dX12_findExit_32 : decode cX12_findExit 32 = .ok (.goto 6, 3) := by decide +kernel
theorem dX12_findExit_35 : decode cX12_findExit 35 = .ok (.iload_n 2, 1) := by decide +kernel
theorem dX12_findExit_36 : decode cX12_findExit 36 = .ok (.iconst 1, 1) := by decide +kernel
theorem dX12_findExit_37 : decode cX12_findExit 37 = .ok (.isub, 1) := by decide +kernel
theorem dX12_findExit_38 : decode cX12_findExit 38 = .ok (.istore_n 3, 1) := by decide +kernel
theorem dX12_findExit_39 : decode cX12_findExit 39 = .ok (.bipush (-9), 2) := by decide +kernel
theorem dX12_findExit_41 : decode cX12_findExit 41 = .ok (.istore 4, 2) := by decide +kernel
theorem dX12_findExit_43 : decode cX12_findExit 43 = .ok (.iconst 0, 1) := by decide +kernel
theorem dX12_findExit_44 : decode cX12_findExit 44 = .ok (.istore 5, 2) := by decide +kernel
theorem dX12_findExit_46 : decode cX12_findExit 46 = .ok (.iload 5, 2) := by decide +kernel
theorem dX12_findExit_48 : decode cX12_findExit 48 = .ok (.aload_n 0, 1) := by decide +kernel
theorem dX12_findExit_49 : decode cX12_findExit 49 = .ok (.getfield 202, 3) := by decide +kernel
theorem dX12_findExit_52 : decode cX12_findExit 52 = .ok (.if_icmp .ge 112, 3) := by decide +kernel
theorem dX12_findExit_55 : decode cX12_findExit 55 = .ok (.aload_n 0, 1) := by decide +kernel
theorem dX12_findExit_56 : decode cX12_findExit 56 = .ok (.getfield 37, 3) := by decide +kernel
theorem dX12_findExit_59 : decode cX12_findExit 59 = .ok (.iload 5, 2) := by decide +kernel
theorem dX12_findExit_61 : decode cX12_findExit 61 = .ok (.baload, 1) := by decide +kernel
theorem dX12_findExit_62 : decode cX12_findExit 62 = .ok (.ifCond .eq 42, 3) := by decide +kernel
theorem dX12_findExit_65 : decode cX12_findExit 65 = .ok (.aload_n 0, 1) := by decide +kernel
theorem dX12_findExit_66 : decode cX12_findExit 66 = .ok (.getfield 25, 3) := by decide +kernel
theorem dX12_findExit_69 : decode cX12_findExit 69 = .ok (.iload 5, 2) := by decide +kernel
theorem dX12_findExit_71 : decode cX12_findExit 71 = .ok (.iaload, 1) := by decide +kernel
theorem dX12_findExit_72 : decode cX12_findExit 72 = .ok (.iconst 5, 1) := by decide +kernel
theorem dX12_findExit_73 : decode cX12_findExit 73 = .ok (.if_icmp .ne 31, 3) := by decide +kernel
theorem dX12_findExit_76 : decode cX12_findExit 76 = .ok (.aload_n 0, 1) := by decide +kernel
theorem dX12_findExit_77 : decode cX12_findExit 77 = .ok (.getfield 28, 3) := by decide +kernel
theorem dX12_findExit_80 : decode cX12_findExit 80 = .ok (.iload 5, 2) := by decide +kernel
theorem dX12_findExit_82 : decode cX12_findExit 82 = .ok (.iaload, 1) := by decide +kernel
theorem dX12_findExit_83 : decode cX12_findExit 83 = .ok (.iload_n 1, 1) := by decide +kernel
theorem dX12_findExit_84 : decode cX12_findExit 84 = .ok (.if_icmp .ne 20, 3) := by decide +kernel
theorem dX12_findExit_87 : decode cX12_findExit 87 = .ok (.aload_n 0, 1) := by decide +kernel
theorem dX12_findExit_88 : decode cX12_findExit 88 = .ok (.getfield 34, 3) := by decide +kernel
theorem dX12_findExit_91 : decode cX12_findExit 91 = .ok (.iload 5, 2) := by decide +kernel
theorem dX12_findExit_93 : decode cX12_findExit 93 = .ok (.iaload, 1) := by decide +kernel
theorem dX12_findExit_94 : decode cX12_findExit 94 = .ok (.iload_n 2, 1) := by decide +kernel
theorem dX12_findExit_95 : decode cX12_findExit 95 = .ok (.if_icmp .ne 9, 3) := by decide +kernel
theorem dX12_findExit_98 : decode cX12_findExit 98 = .ok (.aload_n 0, 1) := by decide +kernel
theorem dX12_findExit_99 : decode cX12_findExit 99 = .ok (.iload 5, 2) := by decide +kernel
theorem dX12_findExit_101 : decode cX12_findExit 101 = .ok (.putfield 269, 3) := by decide +kernel
theorem dX12_findExit_104 : decode cX12_findExit 104 = .ok (.aload_n 0, 1) := by decide +kernel
theorem dX12_findExit_105 : decode cX12_findExit 105 = .ok (.getfield 37, 3) := by decide +kernel
theorem dX12_findExit_108 : decode cX12_findExit 108 = .ok (.iload 5, 2) := by decide +kernel
theorem dX12_findExit_110 : decode cX12_findExit 110 = .ok (.baload, 1) := by decide +kernel
theorem dX12_findExit_111 : decode cX12_findExit 111 = .ok (.ifCond .eq 47, 3) := by decide +kernel
theorem dX12_findExit_114 : decode cX12_findExit 114 = .ok (.aload_n 0, 1) := by decide +kernel
theorem dX12_findExit_115 : decode cX12_findExit 115 = .ok (.getfield 25, 3) := by decide +kernel
theorem dX12_findExit_118 : decode cX12_findExit 118 = .ok (.iload 5, 2) := by decide +kernel
theorem dX12_findExit_120 : decode cX12_findExit 120 = .ok (.iaload, 1) := by decide +kernel
theorem dX12_findExit_121 : decode cX12_findExit 121 = .ok (.iconst 5, 1) := by decide +kernel
theorem dX12_findExit_122 : decode cX12_findExit 122 = .ok (.if_icmp .ne 36, 3) := by decide +kernel
theorem dX12_findExit_125 : decode cX12_findExit 125 = .ok (.aload_n 0, 1) := by decide +kernel
theorem dX12_findExit_126 : decode cX12_findExit 126 = .ok (.getfield 31, 3) := by decide +kernel
theorem dX12_findExit_129 : decode cX12_findExit 129 = .ok (.iload 5, 2) := by decide +kernel
theorem dX12_findExit_131 : decode cX12_findExit 131 = .ok (.iaload, 1) := by decide +kernel
theorem dX12_findExit_132 : decode cX12_findExit 132 = .ok (.iload_n 1, 1) := by decide +kernel
theorem dX12_findExit_133 : decode cX12_findExit 133 = .ok (.if_icmp .ne 25, 3) := by decide +kernel
theorem dX12_findExit_136 : decode cX12_findExit 136 = .ok (.aload_n 0, 1) := by decide +kernel
theorem dX12_findExit_137 : decode cX12_findExit 137 = .ok (.getfield 34, 3) := by decide +kernel
theorem dX12_findExit_140 : decode cX12_findExit 140 = .ok (.iload 5, 2) := by decide +kernel
theorem dX12_findExit_142 : decode cX12_findExit 142 = .ok (.iaload, 1) := by decide +kernel
theorem dX12_findExit_143 : decode cX12_findExit 143 = .ok (.iload_n 3, 1) := by decide +kernel
theorem dX12_findExit_144 : decode cX12_findExit 144 = .ok (.if_icmp .ne 14, 3) := by decide +kernel
theorem dX12_findExit_147 : decode cX12_findExit 147 = .ok (.iload 4, 2) := by decide +kernel
theorem dX12_findExit_149 : decode cX12_findExit 149 = .ok (.bipush (-9), 2) := by decide +kernel
theorem dX12_findExit_151 : decode cX12_findExit 151 = .ok (.if_icmp .ne 7, 3) := by decide +kernel
theorem dX12_findExit_154 : decode cX12_findExit 154 = .ok (.iload 5, 2) := by decide +kernel
theorem dX12_findExit_156 : decode cX12_findExit 156 = .ok (.istore 4, 2) := by decide +kernel
theorem dX12_findExit_158 : decode cX12_findExit 158 = .ok (.iinc 5 1, 3) := by decide +kernel
theorem dX12_findExit_161 : decode cX12_findExit 161 = .ok (.goto (-115), 3) := by decide +kernel
theorem dX12_findExit_164 : decode cX12_findExit 164 = .ok (.aload_n 0, 1) := by decide +kernel
theorem dX12_findExit_165 : decode cX12_findExit 165 = .ok (.getfield 269, 3) := by decide +kernel
theorem dX12_findExit_168 : decode cX12_findExit 168 = .ok (.bipush (-9), 2) := by decide +kernel
theorem dX12_findExit_170 : decode cX12_findExit 170 = .ok (.if_icmp .eq 49, 3) := by decide +kernel
theorem dX12_findExit_173 : decode cX12_findExit 173 = .ok (.aload_n 0, 1) := by decide +kernel
theorem dX12_findExit_174 : decode cX12_findExit 174 = .ok (.aload_n 0, 1) := by decide +kernel
theorem dX12_findExit_175 : decode cX12_findExit 175 = .ok (.getfield 31, 3) := by decide +kernel
theorem dX12_findExit_178 : decode cX12_findExit 178 = .ok (.aload_n 0, 1) := by decide +kernel
theorem dX12_findExit_179 : decode cX12_findExit 179 = .ok (.getfield 269, 3) := by decide +kernel
theorem dX12_findExit_182 : decode cX12_findExit 182 = .ok (.iaload, 1) := by decide +kernel
theorem dX12_findExit_183 : decode cX12_findExit 183 = .ok (.iconst 2, 1) := by decide +kernel
theorem dX12_findExit_184 : decode cX12_findExit 184 = .ok (.invokevirtual 184, 3) := by decide +kernel
theorem dX12_findExit_187 : decode cX12_findExit 187 = .ok (.ifCond .eq 32, 3) := by decide +kernel
theorem dX12_findExit_190 : decode cX12_findExit 190 = .ok (.aload_n 0, 1) := by decide +kernel
theorem dX12_findExit_191 : decode cX12_findExit 191 = .ok (.aload_n 0, 1) := by decide +kernel
theorem dX12_findExit_192 : decode cX12_findExit 192 = .ok (.getfield 31, 3) := by decide +kernel
theorem dX12_findExit_195 : decode cX12_findExit 195 = .ok (.aload_n 0, 1) := by decide +kernel
theorem dX12_findExit_196 : decode cX12_findExit 196 = .ok (.getfield 269, 3) := by decide +kernel
theorem dX12_findExit_199 : decode cX12_findExit 199 = .ok (.iaload, 1) := by decide +kernel
theorem dX12_findExit_200 : decode cX12_findExit 200 = .ok (.putfield 266, 3) := by decide +kernel
theorem dX12_findExit_203 : decode cX12_findExit 203 = .ok (.aload_n 0, 1) := by decide +kernel
theorem dX12_findExit_204 : decode cX12_findExit 204 = .ok (.aload_n 0, 1) := by decide +kernel
theorem dX12_findExit_205 : decode cX12_findExit 205 = .ok (.aload_n 0, 1) := by decide +kernel
theorem dX12_findExit_206 : decode cX12_findExit 206 = .ok (.getfield 266, 3) := by decide +kernel
theorem dX12_findExit_209 : decode cX12_findExit 209 = .ok (.iload_n 1, 1) := by decide +kernel
theorem dX12_findExit_210 : decode cX12_findExit 210 = .ok (.invokevirtual 276, 3) := by decide +kernel
theorem dX12_findExit_213 : decode cX12_findExit 213 = .ok (.putfield 263, 3) := by decide +kernel
theorem dX12_findExit_216 : decode cX12_findExit 216 = .ok (.goto 57, 3) := by decide +kernel
theorem dX12_findExit_219 : decode cX12_findExit 219 = .ok (.aload_n 0, 1) := by decide +kernel
theorem dX12_findExit_220 : decode cX12_findExit 220 = .ok (.getfield 269, 3) := by decide +kernel
theorem dX12_findExit_223 : decode cX12_findExit 223 = .ok (.bipush (-9), 2) := by decide +kernel
theorem dX12_findExit_225 : decode cX12_findExit 225 = .ok (.if_icmp .eq 19, 3) := by decide +kernel
theorem dX12_findExit_228 : decode cX12_findExit 228 = .ok (.aload_n 0, 1) := by decide +kernel
theorem dX12_findExit_229 : decode cX12_findExit 229 = .ok (.aload_n 0, 1) := by decide +kernel
theorem dX12_findExit_230 : decode cX12_findExit 230 = .ok (.getfield 31, 3) := by decide +kernel
theorem dX12_findExit_233 : decode cX12_findExit 233 = .ok (.aload_n 0, 1) := by decide +kernel
theorem dX12_findExit_234 : decode cX12_findExit 234 = .ok (.getfield 269, 3) := by decide +kernel
theorem dX12_findExit_237 : decode cX12_findExit 237 = .ok (.iaload, 1) := by decide +kernel
theorem dX12_findExit_238 : decode cX12_findExit 238 = .ok (.putfield 263, 3) := by decide +kernel
theorem dX12_findExit_241 : decode cX12_findExit 241 = .ok (.goto 32, 3) := by decide +kernel
theorem dX12_findExit_244 : decode cX12_findExit 244 = .ok (.iload 4, 2) := by decide +kernel
theorem dX12_findExit_246 : decode cX12_findExit 246 = .ok (.bipush (-9), 2) := by decide +kernel
theorem dX12_findExit_248 : decode cX12_findExit 248 = .ok (.if_icmp .eq 25, 3) := by decide +kernel
theorem dX12_findExit_251 : decode cX12_findExit 251 = .ok (.aload_n 0, 1) := by decide +kernel
theorem dX12_findExit_252 : decode cX12_findExit 252 = .ok (.iload 4, 2) := by decide +kernel
theorem dX12_findExit_254 : decode cX12_findExit 254 = .ok (.putfield 269, 3) := by decide +kernel
theorem dX12_findExit_257 : decode cX12_findExit 257 = .ok (.aload_n 0, 1) := by decide +kernel
theorem dX12_findExit_258 : decode cX12_findExit 258 = .ok (.iconst 1, 1) := by decide +kernel
theorem dX12_findExit_259 : decode cX12_findExit 259 = .ok (.putfield 272, 3) := by decide +kernel
theorem dX12_findExit_262 : decode cX12_findExit 262 = .ok (.aload_n 0, 1) := by decide +kernel
theorem dX12_findExit_263 : decode cX12_findExit 263 = .ok (.aload_n 0, 1) := by decide +kernel
theorem dX12_findExit_264 : decode cX12_findExit 264 = .ok (.getfield 28, 3) := by decide +kernel
theorem dX12_findExit_267 : decode cX12_findExit 267 = .ok (.iload 4, 2) := by decide +kernel
theorem dX12_findExit_269 : decode cX12_findExit 269 = .ok (.iaload, 1) := by decide +kernel
theorem dX12_findExit_270 : decode cX12_findExit 270 = .ok (.putfield 263, 3) := by decide +kernel
theorem dX12_findExit_273 : decode cX12_findExit 273 = .ok (.aload_n 0, 1) := by decide +kernel
theorem dX12_findExit_274 : decode cX12_findExit 274 = .ok (.getfield 269, 3) := by decide +kernel
theorem dX12_findExit_277 : decode cX12_findExit 277 = .ok (.bipush (-9), 2) := by decide +kernel
theorem dX12_findExit_279 : decode cX12_findExit 279 = .ok (.if_icmp .eq 7, 3) := by decide +kernel
theorem dX12_findExit_282 : decode cX12_findExit 282 = .ok (.iconst 1, 1) := by decide +kernel
theorem dX12_findExit_283 : decode cX12_findExit 283 = .ok (.goto 4, 3) := by decide +kernel
theorem dX12_findExit_286 : decode cX12_findExit 286 = .ok (.iconst 0, 1) := by decide +kernel
theorem dX12_findExit_287 : decode cX12_findExit 287 = .ok (.ireturn, 1) := by decide +kernel
theorem dX12_otherSide_0 : decode cX12_otherSide 0 = .ok (.iconst 0, 1) := by decide +kernel
theorem dX12_otherSide_1 : decode cX12_otherSide 1 = .ok (.istore_n 3, 1) := by decide +kernel
theorem dX12_otherSide_2 : decode cX12_otherSide 2 = .ok (.iload_n 3, 1) := by decide +kernel
theorem dX12_otherSide_3 : decode cX12_otherSide 3 = .ok (.aload_n 0, 1) := by decide +kernel
theorem dX12_otherSide_4 : decode cX12_otherSide 4 = .ok (.getfield 202, 3) := by decide +kernel
theorem dX12_otherSide_7 : decode cX12_otherSide 7 = .ok (.if_icmp .ge 55, 3) := by decide +kernel
theorem dX12_otherSide_10 : decode cX12_otherSide 10 = .ok (.aload_n 0, 1) := by decide +kernel
theorem dX12_otherSide_11 : decode cX12_otherSide 11 = .ok (.getfield 37, 3) := by decide +kernel
theorem dX12_otherSide_14 : decode cX12_otherSide 14 = .ok (.iload_n 3, 1) := by decide +kernel
theorem dX12_otherSide_15 : decode cX12_otherSide 15 = .ok (.baload, 1) := by decide +kernel
theorem dX12_otherSide_16 : decode cX12_otherSide 16 = .ok (.ifCond .eq 40, 3) := by decide +kernel
theorem dX12_otherSide_19 : decode cX12_otherSide 19 = .ok (.aload_n 0, 1) := by decide +kernel
theorem dX12_otherSide_20 : decode cX12_otherSide 20 = .ok (.getfield 25, 3) := by decide +kernel
theorem dX12_otherSide_23 : decode cX12_otherSide 23 = .ok (.iload_n 3, 1) := by decide +kernel
theorem dX12_otherSide_24 : decode cX12_otherSide 24 = .ok (.iaload, 1) := by decide +kernel
theorem dX12_otherSide_25 : decode cX12_otherSide 25 = .ok (.iconst 5, 1) := by decide +kernel
theorem dX12_otherSide_26 : decode cX12_otherSide 26 = .ok (.if_icmp .ne 30, 3) := by decide +kernel
theorem dX12_otherSide_29 : decode cX12_otherSide 29 = .ok (.aload_n 0, 1) := by decide +kernel
theorem dX12_otherSide_30 : decode cX12_otherSide 30 = .ok (.getfield 31, 3) := by decide +kernel
theorem dX12_otherSide_33 : decode cX12_otherSide 33 = .ok (.iload_n 3, 1) := by decide +kernel
theorem dX12_otherSide_34 : decode cX12_otherSide 34 = .ok (.iaload, 1) := by decide +kernel
theorem dX12_otherSide_35 : decode cX12_otherSide 35 = .ok (.iload_n 1, 1) := by decide +kernel
theorem dX12_otherSide_36 : decode cX12_otherSide 36 = .ok (.if_icmp .ne 20, 3) := by decide +kernel
theorem dX12_otherSide_39 : decode cX12_otherSide 39 = .ok (.aload_n 0, 1) := by decide +kernel
theorem dX12_otherSide_40 : decode cX12_otherSide 40 = .ok (.getfield 28, 3) := by decide +kernel
theorem dX12_otherSide_43 : decode cX12_otherSide 43 = .ok (.iload_n 3, 1) := by decide +kernel
theorem dX12_otherSide_44 : decode cX12_otherSide 44 = .ok (.iaload, 1) := by decide +kernel
theorem dX12_otherSide_45 : decode cX12_otherSide 45 = .ok (.iload_n 2, 1) := by decide +kernel
theorem dX12_otherSide_46 : decode cX12_otherSide 46 = .ok (.if_icmp .eq 10, 3) := by decide +kernel
theorem dX12_otherSide_49 : decode cX12_otherSide 49 = .ok (.aload_n 0, 1) := by decide +kernel
theorem dX12_otherSide_50 : decode cX12_otherSide 50 = .ok (.getfield 28, 3) := by decide +kernel
theorem dX12_otherSide_53 : decode cX12_otherSide 53 = .ok (.iload_n 3, 1) := by decide +kernel
theorem dX12_otherSide_54 : decode cX12_otherSide 54 = .ok (.iaload, 1) := by decide +kernel
theorem dX12_otherSide_55 : decode cX12_otherSide 55 = .ok (.ireturn, 1) := by decide +kernel
theorem dX12_otherSide_56 : decode cX12_otherSide 56 = .ok (.iinc 3 1, 3) := by decide +kernel
theorem dX12_otherSide_59 : decode cX12_otherSide 59 = .ok (.goto (-57), 3) := by decide +kernel
theorem dX12_otherSide_62 : decode cX12_otherSide 62 = .ok (.bipush (-9), 2) := by decide +kernel
theorem dX12_otherSide_64 : decode cX12_otherSide 64 = .ok (.ireturn, 1) := by decide +kernel
theorem dX12_isSide_0 : decode cX12_isSide 0 = .ok (.iconst 0, 1) := by decide +kernel
theorem dX12_isSide_1 : decode cX12_isSide 1 = .ok (.istore_n 3, 1) := by decide +kernel
theorem dX12_isSide_2 : decode cX12_isSide 2 = .ok (.iload_n 3, 1) := by decide +kernel
theorem dX12_isSide_3 : decode cX12_isSide 3 = .ok (.aload_n 0, 1) := by decide +kernel
theorem dX12_isSide_4 : decode cX12_isSide 4 = .ok (.getfield 202, 3) := by decide +kernel
theorem dX12_isSide_7 : decode cX12_isSide 7 = .ok (.if_icmp .ge 50, 3) := by decide +kernel
theorem dX12_isSide_10 : decode cX12_isSide 10 = .ok (.aload_n 0, 1) := by decide +kernel
theorem dX12_isSide_11 : decode cX12_isSide 11 = .ok (.getfield 37, 3) := by decide +kernel
theorem dX12_isSide_14 : decode cX12_isSide 14 = .ok (.iload_n 3, 1) := by decide +kernel
theorem dX12_isSide_15 : decode cX12_isSide 15 = .ok (.baload, 1) := by decide +kernel
theorem dX12_isSide_16 : decode cX12_isSide 16 = .ok (.ifCond .eq 35, 3) := by decide +kernel
theorem dX12_isSide_19 : decode cX12_isSide 19 = .ok (.aload_n 0, 1) := by decide +kernel
theorem dX12_isSide_20 : decode cX12_isSide 20 = .ok (.getfield 25, 3) := by decide +kernel
theorem dX12_isSide_23 : decode cX12_isSide 23 = .ok (.iload_n 3, 1) := by decide +kernel
theorem dX12_isSide_24 : decode cX12_isSide 24 = .ok (.iaload, 1) := by decide +kernel
theorem dX12_isSide_25 : decode cX12_isSide 25 = .ok (.iconst 5, 1) := by decide +kernel
theorem dX12_isSide_26 : decode cX12_isSide 26 = .ok (.if_icmp .ne 25, 3) := by decide +kernel
theorem dX12_isSide_29 : decode cX12_isSide 29 = .ok (.aload_n 0, 1) := by decide +kernel
theorem dX12_isSide_30 : decode cX12_isSide 30 = .ok (.getfield 31, 3) := by decide +kernel
theorem dX12_isSide_33 : decode cX12_isSide 33 = .ok (.iload_n 3, 1) := by decide +kernel
theorem dX12_isSide_34 : decode cX12_isSide 34 = .ok (.iaload, 1) := by decide +kernel
theorem dX12_isSide_35 : decode cX12_isSide 35 = .ok (.iload_n 1, 1) := by decide +kernel
theorem dX12_isSide_36 : decode cX12_isSide 36 = .ok (.if_icmp .ne 15, 3) := by decide +kernel
theorem dX12_isSide_39 : decode cX12_isSide 39 = .ok (.aload_n 0, 1) := by decide +kernel
theorem dX12_isSide_40 : decode cX12_isSide 40 = .ok (.getfield 28, 3) := by decide +kernel
theorem dX12_isSide_43 : decode cX12_isSide 43 = .ok (.iload_n 3, 1) := by decide +kernel
theorem dX12_isSide_44 : decode cX12_isSide 44 = .ok (.iaload, 1) := by decide +kernel
theorem dX12_isSide_45 : decode cX12_isSide 45 = .ok (.iload_n 2, 1) := by decide +kernel
theorem dX12_isSide_46 : decode cX12_isSide 46 = .ok (.if_icmp .ne 5, 3) := by decide +kernel
theorem dX12_isSide_49 : decode cX12_isSide 49 = .ok (.iconst 1, 1) := by decide +kernel
theorem dX12_isSide_50 : decode cX12_isSide 50 = .ok (.ireturn, 1) := by decide +kernel
theorem dX12_isSide_51 : decode cX12_isSide 51 = .ok (.iinc 3 1, 3) := by decide +kernel
theorem dX12_isSide_54 : decode cX12_isSide 54 = .ok (.goto (-52), 3) := by decide +kernel
theorem dX12_isSide_57 : decode cX12_isSide 57 = .ok (.iconst 0, 1) := by decide +kernel
theorem dX12_isSide_58 : decode cX12_isSide 58 = .ok (.ireturn, 1) := by decide +kernel
theorem dX12_endTale_0 : decode cX12_endTale 0 = .ok (.aload_n 0, 1) := by decide +kernel
theorem dX12_endTale_1 : decode cX12_endTale 1 = .ok (.bipush (-9), 2) := by decide +kernel
theorem dX12_endTale_3 : decode cX12_endTale 3 = .ok (.putfield 155, 3) := by decide +kernel
theorem dX12_endTale_6 : decode cX12_endTale 6 = .ok (.aload_n 0, 1) := by decide +kernel
theorem dX12_endTale_7 : decode cX12_endTale 7 = .ok (.iconst 0, 1) := by decide +kernel
theorem dX12_endTale_8 : decode cX12_endTale 8 = .ok (.putfield 291, 3) := by decide +kernel
theorem dX12_endTale_11 : decode cX12_endTale 11 = .ok (.return_, 1) := by decide +kernel
theorem dX12_formNow_0 : decode cX12_formNow 0 = .ok (.aload_n 0, 1) := by decide +kernel
theorem dX12_formNow_1 : decode cX12_formNow 1 = .ok (.getfield 155, 3) := by decide +kernel
theorem dX12_formNow_4 : decode cX12_formNow 4 = .ok (.bipush (-9), 2) := by decide +kernel
theorem dX12_formNow_6 : decode cX12_formNow 6 = .ok (.if_icmp .eq 10, 3) := by decide +kernel
theorem dX12_formNow_9 : decode cX12_formNow 9 = .ok (.aload_n 0, 1) := by decide +kernel
theorem dX12_formNow_10 : decode cX12_formNow 10 = .ok (.getfield 50, 3) := by decide +kernel
theorem dX12_formNow_13 : decode cX12_formNow 13 = .ok (.iload_n 1, 1) := by decide +kernel
theorem dX12_formNow_14 : decode cX12_formNow 14 = .ok (.iaload, 1) := by decide +kernel
theorem dX12_formNow_15 : decode cX12_formNow 15 = .ok (.ireturn, 1) := by decide +kernel
theorem dX12_formNow_16 : decode cX12_formNow 16 = .ok (.aload_n 0, 1) := by decide +kernel
theorem dX12_formNow_17 : decode cX12_formNow 17 = .ok (.iload_n 1, 1) := by decide +kernel
theorem dX12_formNow_18 : decode cX12_formNow 18 = .ok (.invokevirtual 208, 3) := by decide +kernel
theorem dX12_formNow_21 : decode cX12_formNow 21 = .ok (.istore_n 2, 1) := by decide +kernel
theorem dX12_formNow_22 : decode cX12_formNow 22 = .ok (.iload_n 2, 1) := by decide +kernel
theorem dX12_formNow_23 : decode cX12_formNow 23 = .ok (.bipush (-9), 2) := by decide +kernel
theorem dX12_formNow_25 : decode cX12_formNow 25 = .ok (.if_icmp .ne 8, 3) := by decide +kernel
theorem dX12_formNow_28 : decode cX12_formNow 28 = .ok (.bipush (-9), 2) := by decide +kernel
theorem dX12_formNow_30 : decode cX12_formNow 30 = .ok (.goto 9, 3) := by decide +kernel
theorem dX12_formNow_33 : decode cX12_formNow 33 = .ok (.aload_n 0, 1) := by decide +kernel
theorem dX12_formNow_34 : decode cX12_formNow 34 = .ok (.getfield 25, 3) := by decide +kernel
theorem dX12_formNow_37 : decode cX12_formNow 37 = .ok (.iload_n 2, 1) := by decide +kernel
theorem dX12_formNow_38 : decode cX12_formNow 38 = .ok (.iaload, 1) := by decide +kernel
theorem dX12_formNow_39 : decode cX12_formNow 39 = .ok (.ireturn, 1) := by decide +kernel
theorem dX12_atNow_0 : decode cX12_atNow 0 = .ok (.aload_n 0, 1) := by decide +kernel
theorem dX12_atNow_1 : decode cX12_atNow 1 = .ok (.getfield 155, 3) := by decide +kernel
theorem dX12_atNow_4 : decode cX12_atNow 4 = .ok (.bipush (-9), 2) := by decide +kernel
theorem dX12_atNow_6 : decode cX12_atNow 6 = .ok (.if_icmp .eq 10, 3) := by decide +kernel
theorem dX12_atNow_9 : decode cX12_atNow 9 = .ok (.aload_n 0, 1) := by decide +kernel
theorem dX12_atNow_10 : decode cX12_atNow 10 = .ok (.getfield 53, 3) := by decide +kernel
theorem dX12_atNow_13 : decode cX12_atNow 13 = .ok (.iload_n 1, 1) := by decide +kernel
theorem dX12_atNow_14 : decode cX12_atNow 14 = .ok (.iaload, 1) := by decide +kernel
theorem dX12_atNow_15 : decode cX12_atNow 15 = .ok (.ireturn, 1) := by decide +kernel
theorem dX12_atNow_16 : decode cX12_atNow 16 = .ok (.aload_n 0, 1) := by decide +kernel
theorem dX12_atNow_17 : decode cX12_atNow 17 = .ok (.iload_n 1, 1) := by decide +kernel
theorem dX12_atNow_18 : decode cX12_atNow 18 = .ok (.invokevirtual 208, 3) := by decide +kernel
theorem dX12_atNow_21 : decode cX12_atNow 21 = .ok (.istore_n 2, 1) := by decide +kernel
theorem dX12_atNow_22 : decode cX12_atNow 22 = .ok (.iload_n 2, 1) := by decide +kernel
theorem dX12_atNow_23 : decode cX12_atNow 23 = .ok (.bipush (-9), 2) := by decide +kernel
theorem dX12_atNow_25 : decode cX12_atNow 25 = .ok (.if_icmp .ne 8, 3) := by decide +kernel
theorem dX12_atNow_28 : decode cX12_atNow 28 = .ok (.bipush (-9), 2) := by decide +kernel
theorem dX12_atNow_30 : decode cX12_atNow 30 = .ok (.goto 9, 3) := by decide +kernel
theorem dX12_atNow_33 : decode cX12_atNow 33 = .ok (.aload_n 0, 1) := by decide +kernel
theorem dX12_atNow_34 : decode cX12_atNow 34 = .ok (.getfield 31, 3) := by decide +kernel
theorem dX12_atNow_37 : decode cX12_atNow 37 = .ok (.iload_n 2, 1) := by decide +kernel
theorem dX12_atNow_38 : decode cX12_atNow 38 = .ok (.iaload, 1) := by decide +kernel
theorem dX12_atNow_39 : decode cX12_atNow 39 = .ok (.ireturn, 1) := by decide +kernel
theorem dX12_body_0 : decode cX12_body 0 = .ok (.aload_n 0, 1) := by decide +kernel
theorem dX12_body_1 : decode cX12_body 1 = .ok (.getfield 294, 3) := by decide +kernel
theorem dX12_body_4 : decode cX12_body 4 = .ok (.ifCond .eq 32, 3) := by decide +kernel
theorem dX12_body_7 : decode cX12_body 7 = .ok (.aload_n 0, 1) := by decide +kernel
theorem dX12_body_8 : decode cX12_body 8 = .ok (.getfield 297, 3) := by decide +kernel
theorem dX12_body_11 : decode cX12_body 11 = .ok (.bipush 100, 2) := by decide +kernel
theorem dX12_body_13 : decode cX12_body 13 = .ok (.if_icmp .ge 23, 3) := by decide +kernel
theorem dX12_body_16 : decode cX12_body 16 = .ok (.aload_n 0, 1) := by decide +kernel
theorem dX12_body_17 : decode cX12_body 17 = .ok (.getfield 77, 3) := by decide +kernel
theorem dX12_body_20 : decode cX12_body 20 = .ok (.aload_n 0, 1) := by decide +kernel
theorem dX12_body_21 : decode cX12_body 21 = .ok (.getfield 297, 3) := by decide +kernel
theorem dX12_body_24 : decode cX12_body 24 = .ok (.iload_n 1, 1) := by decide +kernel
theorem dX12_body_25 : decode cX12_body 25 = .ok (.iastore, 1) := by decide +kernel
theorem dX12_body_26 : decode cX12_body 26 = .ok (.aload_n 0, 1) := by decide +kernel
theorem dX12_body_27 : decode cX12_body 27 = .ok (.dup, 1) := by decide +kernel
theorem dX12_body_28 : decode cX12_body 28 = .ok (.getfield 297, 3) := by decide +kernel
theorem dX12_body_31 : decode cX12_body 31 = .ok (.iconst 1, 1) := by decide +kernel
theorem dX12_body_32 : decode cX12_body 32 = .ok (.iadd, 1) := by decide +kernel
theorem dX12_body_33 : decode cX12_body 33 = .ok (.putfield 297, 3) := by decide +kernel
theorem dX12_body_36 : decode cX12_body 36 = .ok (.return_, 1) := by decide +kernel
theorem dX12_lookAtKinds_0 : decode cX12_lookAtKinds 0 = .ok (.iconst 0, 1) := by decide +kernel
theorem dX12_lookAtKinds_1 : decode cX12_lookAtKinds 1 = .ok (.istore_n 1, 1) := by decide +kernel
theorem dX12_lookAtKinds_2 : decode cX12_lookAtKinds 2 = .ok (.iload_n 1, 1) := by decide +kernel
theorem dX12_lookAtKinds_3 : decode cX12_lookAtKinds 3 = .ok (.aload_n 0, 1) := by decide +kernel
theorem dX12_lookAtKinds_4 : decode cX12_lookAtKinds 4 = .ok (.getfield 177, 3) := by decide +kernel
theorem dX12_lookAtKinds_7 : decode cX12_lookAtKinds 7 = .ok (.if_icmp .ge 96, 3) := by decide +kernel
theorem dX12_lookAtKinds_10 : decode cX12_lookAtKinds 10 = .ok (.aload_n 0, 1) := by decide +kernel
theorem dX12_lookAtKinds_11 : decode cX12_lookAtKinds 11 = .ok (.getfield 92, 3) := by decide +kernel
theorem dX12_lookAtKinds_14 : decode cX12_lookAtKinds 14 = .ok (.iload_n 1, 1) := by decide +kernel
theorem dX12_lookAtKinds_15 : decode cX12_lookAtKinds 15 = .ok (.aload_n 0, 1) := by decide +kernel
theorem dX12_lookAtKinds_16 : decode cX12_lookAtKinds 16 = .ok (.iload_n 1, 1) := by decide +kernel
theorem dX12_lookAtKinds_17 : decode cX12_lookAtKinds 17 = .ok (.iconst 2, 1) := by decide +kernel
theorem dX12_lookAtKinds_18 : decode cX12_lookAtKinds 18 = .ok (.invokevirtual 256, 3) := by decide +kernel
theorem dX12_lookAtKinds_21 : decode cX12_lookAtKinds 21 = .ok (.iconst 1, 1) := by decide +kernel
theorem dX12_lookAtKinds_22 : decode cX12_lookAtKinds 22 = .ok (.if_icmp .ne 7, 3) := by decide +kernel
theorem dX12_lookAtKinds_25 : decode cX12_lookAtKinds 25 = .ok (.iconst 1, 1) := by decide +kernel
theorem dX12_lookAtKinds_26 : decode cX12_lookAtKinds 26 = .ok (.goto 4, 3) := by decide +kernel
theorem dX12_lookAtKinds_29 : decode cX12_lookAtKinds 29 = .ok (.iconst 0, 1) := by decide +kernel
theorem dX12_lookAtKinds_30 : decode cX12_lookAtKinds 30 = .ok (.bastore, 1) := by decide +kernel
theorem dX12_lookAtKinds_31 : decode cX12_lookAtKinds 31 = .ok (.aload_n 0, 1) := by decide +kernel
theorem dX12_lookAtKinds_32 : decode cX12_lookAtKinds 32 = .ok (.getfield 98, 3) := by decide +kernel
theorem dX12_lookAtKinds_35 : decode cX12_lookAtKinds 35 = .ok (.iload_n 1, 1) := by decide +kernel
theorem dX12_lookAtKinds_36 : decode cX12_lookAtKinds 36 = .ok (.aload_n 0, 1) := by decide +kernel
theorem dX12_lookAtKinds_37 : decode cX12_lookAtKinds 37 = .ok (.iload_n 1, 1) := by decide +kernel
theorem dX12_lookAtKinds_38 : decode cX12_lookAtKinds 38 = .ok (.iconst 3, 1) := by decide +kernel
theorem dX12_lookAtKinds_39 : decode cX12_lookAtKinds 39 = .ok (.invokevirtual 184, 3) := by decide +kernel
theorem dX12_lookAtKinds_42 : decode cX12_lookAtKinds 42 = .ok (.bastore, 1) := by decide +kernel
theorem dX12_lookAtKinds_43 : decode cX12_lookAtKinds 43 = .ok (.aload_n 0, 1) := by decide +kernel
theorem dX12_lookAtKinds_44 : decode cX12_lookAtKinds 44 = .ok (.getfield 101, 3) := by decide +kernel
theorem dX12_lookAtKinds_47 : decode cX12_lookAtKinds 47 = .ok (.iload_n 1, 1) := by decide +kernel
theorem dX12_lookAtKinds_48 : decode cX12_lookAtKinds 48 = .ok (.aload_n 0, 1) := by decide +kernel
theorem dX12_lookAtKinds_49 : decode cX12_lookAtKinds 49 = .ok (.iload_n 1, 1) := by decide +kernel
theorem dX12_lookAtKinds_50 : decode cX12_lookAtKinds 50 = .ok (.iconst 0, 1) := by decide +kernel
theorem dX12_lookAtKinds_51 : decode cX12_lookAtKinds 51 = .ok (.invokevirtual 184, 3) := by decide +kernel
theorem dX12_lookAtKinds_54 : decode cX12_lookAtKinds 54 = .ok (.bastore, 1) := by decide +kernel
theorem dX12_lookAtKinds_55 : decode cX12_lookAtKinds 55 = .ok (.aload_n 0, 1) := by decide +kernel
theorem dX12_lookAtKinds_56 : decode cX12_lookAtKinds 56 = .ok (.getfield 104, 3) := by decide +kernel
theorem dX12_lookAtKinds_59 : decode cX12_lookAtKinds 59 = .ok (.iload_n 1, 1) := by decide +kernel
theorem dX12_lookAtKinds_60 : decode cX12_lookAtKinds 60 = .ok (.aload_n 0, 1) := by decide +kernel
theorem dX12_lookAtKinds_61 : decode cX12_lookAtKinds 61 = .ok (.iload_n 1, 1) := by decide +kernel
theorem dX12_lookAtKinds_62 : decode cX12_lookAtKinds 62 = .ok (.iconst 2, 1) := by decide +kernel
theorem dX12_lookAtKinds_63 : decode cX12_lookAtKinds 63 = .ok (.invokevirtual 184, 3) := by decide +kernel
theorem dX12_lookAtKinds_66 : decode cX12_lookAtKinds 66 = .ok (.bastore, 1) := by decide +kernel
theorem dX12_lookAtKinds_67 : decode cX12_lookAtKinds 67 = .ok (.aload_n 0, 1) := by decide +kernel
theorem dX12_lookAtKinds_68 : decode cX12_lookAtKinds 68 = .ok (.getfield 95, 3) := by decide +kernel
theorem dX12_lookAtKinds_71 : decode cX12_lookAtKinds 71 = .ok (.iload_n 1, 1) := by decide +kernel
theorem dX12_lookAtKinds_72 : decode cX12_lookAtKinds 72 = .ok (.aload_n 0, 1) := by decide +kernel
theorem dX12_lookAtKinds_73 : decode cX12_lookAtKinds 73 = .ok (.getfield 98, 3) := by decide +kernel
theorem dX12_lookAtKinds_76 : decode cX12_lookAtKinds 76 = .ok (.iload_n 1, 1) := by decide +kernel
theorem dX12_lookAtKinds_77 : decode cX12_lookAtKinds 77 = .ok (.baload, 1) := by decide +kernel
theorem dX12_lookAtKinds_78 : decode cX12_lookAtKinds 78 = .ok (.ifCond .eq 17, 3) := by decide +kernel
theorem dX12_lookAtKinds_81 : decode cX12_lookAtKinds 81 = .ok (.aload_n 0, 1) := by decide +kernel
theorem dX12_lookAtKinds_82 : decode cX12_lookAtKinds 82 = .ok (.iload_n 1, 1) := by decide +kernel
theorem dX12_lookAtKinds_83 : decode cX12_lookAtKinds 83 = .ok (.iconst 5, 1) := by decide +kernel
theorem dX12_lookAtKinds_84 : decode cX12_lookAtKinds 84 = .ok (.invokevirtual 256, 3) := by decide +kernel
theorem dX12_lookAtKinds_87 : decode cX12_lookAtKinds 87 = .ok (.iconst 1, 1) := by decide +kernel
theorem dX12_lookAtKinds_88 : decode cX12_lookAtKinds 88 = .ok (.if_icmp .ne 7, 3) := by decide +kernel
theorem dX12_lookAtKinds_91 : decode cX12_lookAtKinds 91 = .ok (.iconst 1, 1) := by decide +kernel
theorem dX12_lookAtKinds_92 : decode cX12_lookAtKinds 92 = .ok (.goto 4, 3) := by decide +kernel
theorem dX12_lookAtKinds_95 : decode cX12_lookAtKinds 95 = .ok (.iconst 0, 1) := by decide +kernel
theorem dX12_lookAtKinds_96 : decode cX12_lookAtKinds 96 = .ok (.bastore, 1) := by decide +kernel
theorem dX12_lookAtKinds_97 : decode cX12_lookAtKinds 97 = .ok (.iinc 1 1, 3) := by decide +kernel
theorem dX12_lookAtKinds_100 : decode cX12_lookAtKinds 100 = .ok (.goto (-98), 3) := by decide +kernel
theorem dX12_lookAtKinds_103 : decode cX12_lookAtKinds 103 = .ok (.return_, 1) := by decide +kernel
theorem dX12_shuts_0 : decode cX12_shuts 0 = .ok (.aload_n 0, 1) := by decide +kernel
theorem dX12_shuts_1 : decode cX12_shuts 1 = .ok (.getfield 98, 3) := by decide +kernel
theorem dX12_shuts_4 : decode cX12_shuts 4 = .ok (.iload_n 1, 1) := by decide +kernel
theorem dX12_shuts_5 : decode cX12_shuts 5 = .ok (.baload, 1) := by decide +kernel
theorem dX12_shuts_6 : decode cX12_shuts 6 = .ok (.ifCond .eq 29, 3) := by decide +kernel
theorem dX12_shuts_9 : decode cX12_shuts 9 = .ok (.aload_n 0, 1) := by decide +kernel
theorem dX12_shuts_10 : decode cX12_shuts 10 = .ok (.getfield 56, 3) := by decide +kernel
theorem dX12_shuts_13 : decode cX12_shuts 13 = .ok (.iload_n 1, 1) := by decide +kernel
theorem dX12_shuts_14 : decode cX12_shuts 14 = .ok (.baload, 1) := by decide +kernel
theorem dX12_shuts_15 : decode cX12_shuts 15 = .ok (.ifCond .ne 20, 3) := by decide +kernel
theorem dX12_shuts_18 : decode cX12_shuts 18 = .ok (.iload_n 2, 1) := by decide +kernel
theorem dX12_shuts_19 : decode cX12_shuts 19 = .ok (.ifCond .ne 12, 3) := by decide +kernel
theorem dX12_shuts_22 : decode cX12_shuts 22 = .ok (.aload_n 0, 1) := by decide +kernel
theorem dX12_shuts_23 : decode cX12_shuts 23 = .ok (.getfield 95, 3) := by decide +kernel
theorem dX12_shuts_26 : decode cX12_shuts 26 = .ok (.iload_n 1, 1) := by decide +kernel
theorem dX12_shuts_27 : decode cX12_shuts 27 = .ok (.baload, 1) := by decide +kernel
theorem dX12_shuts_28 : decode cX12_shuts 28 = .ok (.ifCond .ne 7, 3) := by decide +kernel
theorem dX12_shuts_31 : decode cX12_shuts 31 = .ok (.iconst 1, 1) := by decide +kernel
theorem dX12_shuts_32 : decode cX12_shuts 32 = .ok (.goto 4, 3) := by decide +kernel
theorem dX12_shuts_35 : decode cX12_shuts 35 = .ok (.iconst 0, 1) := by decide +kernel
theorem dX12_shuts_36 : decode cX12_shuts 36 = .ok (.ireturn, 1) := by decide +kernel
theorem dX12_holds_0 : decode cX12_holds 0 = .ok (.aload_n 0, 1) := by decide +kernel
theorem dX12_holds_1 : decode cX12_holds 1 = .ok (.getfield 50, 3) := by decide +kernel
theorem dX12_holds_4 : decode cX12_holds 4 = .ok (.iload_n 1, 1) := by decide +kernel
theorem dX12_holds_5 : decode cX12_holds 5 = .ok (.iaload, 1) := by decide +kernel
theorem dX12_holds_6 : decode cX12_holds 6 = .ok (.iconst 2, 1) := by decide +kernel
theorem dX12_holds_7 : decode cX12_holds 7 = .ok (.if_icmp .ne 20, 3) := by decide +kernel
theorem dX12_holds_10 : decode cX12_holds 10 = .ok (.aload_n 0, 1) := by decide +kernel
theorem dX12_holds_11 : decode cX12_holds 11 = .ok (.getfield 53, 3) := by decide +kernel
theorem dX12_holds_14 : decode cX12_holds 14 = .ok (.iload_n 1, 1) := by decide +kernel
theorem dX12_holds_15 : decode cX12_holds 15 = .ok (.iaload, 1) := by decide +kernel
theorem dX12_holds_16 : decode cX12_holds 16 = .ok (.aload_n 0, 1) := by decide +kernel
theorem dX12_holds_17 : decode cX12_holds 17 = .ok (.getfield 155, 3) := by decide +kernel
theorem dX12_holds_20 : decode cX12_holds 20 = .ok (.if_icmp .ne 7, 3) := by decide +kernel
theorem dX12_holds_23 : decode cX12_holds 23 = .ok (.iconst 1, 1) := by decide +kernel
theorem dX12_holds_24 : decode cX12_holds 24 = .ok (.goto 4, 3) := by decide +kernel
theorem dX12_holds_27 : decode cX12_holds 27 = .ok (.iconst 0, 1) := by decide +kernel
theorem dX12_holds_28 : decode cX12_holds 28 = .ok (.ireturn, 1) := by decide +kernel
theorem dX12_lying_0 : decode cX12_lying 0 = .ok (.iconst 0, 1) := by decide +kernel
theorem dX12_lying_1 : decode cX12_lying 1 = .ok (.istore_n 3, 1) := by decide +kernel
theorem dX12_lying_2 : decode cX12_lying 2 = .ok (.iconst 0, 1) := by decide +kernel
theorem dX12_lying_3 : decode cX12_lying 3 = .ok (.istore 4, 2) := by decide +kernel
theorem dX12_lying_5 : decode cX12_lying 5 = .ok (.iload 4, 2) := by decide +kernel
theorem dX12_lying_7 : decode cX12_lying 7 = .ok (.aload_n 0, 1) := by decide +kernel
theorem dX12_lying_8 : decode cX12_lying 8 = .ok (.getfield 177, 3) := by decide +kernel
theorem dX12_lying_11 : decode cX12_lying 11 = .ok (.if_icmp .ge 39, 3) := by decide +kernel
theorem dX12_lying_14 : decode cX12_lying 14 = .ok (.iload_n 3, 1) := by decide +kernel
theorem dX12_lying_15 : decode cX12_lying 15 = .ok (.aload_n 0, 1) := by decide +kernel
theorem dX12_lying_16 : decode cX12_lying 16 = .ok (.getfield 50, 3) := by decide +kernel
theorem dX12_lying_19 : decode cX12_lying 19 = .ok (.iload 4, 2) := by decide +kernel
theorem dX12_lying_21 : decode cX12_lying 21 = .ok (.iaload, 1) := by decide +kernel
theorem dX12_lying_22 : decode cX12_lying 22 = .ok (.iload_n 1, 1) := by decide +kernel
theorem dX12_lying_23 : decode cX12_lying 23 = .ok (.if_icmp .ne 18, 3) := by decide +kernel
theorem dX12_lying_26 : decode cX12_lying 26 = .ok (.aload_n 0, 1) := by decide +kernel
theorem dX12_lying_27 : decode cX12_lying 27 = .ok (.getfield 53, 3) := by decide +kernel
theorem dX12_lying_30 : decode cX12_lying 30 = .ok (.iload 4, 2) := by decide +kernel
theorem dX12_lying_32 : decode cX12_lying 32 = .ok (.iaload, 1) := by decide +kernel
theorem dX12_lying_33 : decode cX12_lying 33 = .ok (.iload_n 2, 1) := by decide +kernel
theorem dX12_lying_34 : decode cX12_lying 34 = .ok (.if_icmp .ne 7, 3) := by decide +kernel
theorem dX12_lying_37 : decode cX12_lying 37 = .ok (.iconst 1, 1) := by decide +kernel
theorem dX12_lying_38 : decode cX12_lying 38 = .ok (.goto 4, 3) := by decide +kernel
theorem dX12_lying_41 : decode cX12_lying 41 = .ok (.iconst 0, 1) := by decide +kernel
theorem dX12_lying_42 : decode cX12_lying 42 = .ok (.iadd, 1) := by decide +kernel
theorem dX12_lying_43 : decode cX12_lying 43 = .ok (.istore_n 3, 1) := by decide +kernel
theorem dX12_lying_44 : decode cX12_lying 44 = .ok (.iinc 4 1, 3) := by decide +kernel
theorem dX12_lying_47 : decode cX12_lying 47 = .ok (.goto (-42), 3) := by decide +kernel
theorem dX12_lying_50 : decode cX12_lying 50 = .ok (.iload_n 3, 1) := by decide +kernel
theorem dX12_lying_51 : decode cX12_lying 51 = .ok (.ireturn, 1) := by decide +kernel
theorem dX12_lay_0 : decode cX12_lay 0 = .ok (.aload_n 0, 1) := by decide +kernel
theorem dX12_lay_1 : decode cX12_lay 1 = .ok (.getfield 50, 3) := by decide +kernel
theorem dX12_lay_4 : decode cX12_lay 4 = .ok (.iload_n 1, 1) := by decide +kernel
theorem dX12_lay_5 : decode cX12_lay 5 = .ok (.iload_n 2, 1) := by decide +kernel
theorem dX12_lay_6 : decode cX12_lay 6 = .ok (.iastore, 1) := by decide +kernel
theorem dX12_lay_7 : decode cX12_lay 7 = .ok (.aload_n 0, 1) := by decide +kernel
theorem dX12_lay_8 : decode cX12_lay 8 = .ok (.getfield 53, 3) := by decide +kernel
theorem dX12_lay_11 : decode cX12_lay 11 = .ok (.iload_n 1, 1) := by decide +kernel
theorem dX12_lay_12 : decode cX12_lay 12 = .ok (.iload_n 3, 1) := by decide +kernel
theorem dX12_lay_13 : decode cX12_lay 13 = .ok (.iastore, 1) := by decide +kernel
theorem dX12_lay_14 : decode cX12_lay 14 = .ok (.return_, 1) := by decide +kernel
theorem dX12_hasSecond_0 : decode cX12_hasSecond 0 = .ok (.iload_n 0, 1) := by decide +kernel
theorem dX12_hasSecond_1 : decode cX12_hasSecond 1 = .ok (.iconst 3, 1) := by decide +kernel
theorem dX12_hasSecond_2 : decode cX12_hasSecond 2 = .ok (.if_icmp .eq 20, 3) := by decide +kernel
theorem dX12_hasSecond_5 : decode cX12_hasSecond 5 = .ok (.iload_n 0, 1) := by decide +kernel
