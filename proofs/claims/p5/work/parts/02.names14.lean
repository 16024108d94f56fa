theorem dX12_acts_70 : decode cX12_acts 70 = .ok (.getfield 155, 3) := by decide +kernel
theorem dX12_acts_73 : decode cX12_acts 73 = .ok (.iaload, 1) := by decide +kernel
theorem dX12_acts_74 : decode cX12_acts 74 = .ok (.iload_n 2, 1) := by decide +kernel
theorem dX12_acts_75 : decode cX12_acts 75 = .ok (.invokevirtual 281, 3) := by decide +kernel
theorem dX12_acts_78 : decode cX12_acts 78 = .ok (.istore 4, 2) := by decide +kernel
theorem dX12_acts_80 : decode cX12_acts 80 = .ok (.aload_n 0, 1) := by decide +kernel
theorem dX12_acts_81 : decode cX12_acts 81 = .ok (.aload_n 0, 1) := by decide +kernel
theorem dX12_acts_82 : decode cX12_acts 82 = .ok (.getfield 155, 3) := by decide +kernel
theorem dX12_acts_85 : decode cX12_acts 85 = .ok (.iconst 0, 1) := by decide +kernel
theorem dX12_acts_86 : decode cX12_acts 86 = .ok (.aload_n 0, 1) := by decide +kernel
theorem dX12_acts_87 : decode cX12_acts 87 = .ok (.getfield 263, 3) := by decide +kernel
theorem dX12_acts_90 : decode cX12_acts 90 = .ok (.invokevirtual 381, 3) := by decide +kernel
theorem dX12_acts_93 : decode cX12_acts 93 = .ok (.goto 179, 3) := by decide +kernel
theorem dX12_acts_96 : decode cX12_acts 96 = .ok (.aload_n 0, 1) := by decide +kernel
theorem dX12_acts_97 : decode cX12_acts 97 = .ok (.iload_n 2, 1) := by decide +kernel
theorem dX12_acts_98 : decode cX12_acts 98 = .ok (.iconst 2, 1) := by decide +kernel
theorem dX12_acts_99 : decode cX12_acts 99 = .ok (.aload_n 0, 1) := by decide +kernel
theorem dX12_acts_100 : decode cX12_acts 100 = .ok (.getfield 155, 3) := by decide +kernel
theorem dX12_acts_103 : decode cX12_acts 103 = .ok (.invokevirtual 381, 3) := by decide +kernel
theorem dX12_acts_106 : decode cX12_acts 106 = .ok (.goto 166, 3) := by decide +kernel
theorem dX12_acts_109 : decode cX12_acts 109 = .ok (.aload_n 0, 1) := by decide +kernel
theorem dX12_acts_110 : decode cX12_acts 110 = .ok (.iload_n 2, 1) := by decide +kernel
theorem dX12_acts_111 : decode cX12_acts 111 = .ok (.aload_n 0, 1) := by decide +kernel
theorem dX12_acts_112 : decode cX12_acts 112 = .ok (.getfield 50, 3) := by decide +kernel
theorem dX12_acts_115 : decode cX12_acts 115 = .ok (.aload_n 0, 1) := by decide +kernel
theorem dX12_acts_116 : decode cX12_acts 116 = .ok (.getfield 155, 3) := by decide +kernel
theorem dX12_acts_119 : decode cX12_acts 119 = .ok (.iaload, 1) := by decide +kernel
theorem dX12_acts_120 : decode cX12_acts 120 = .ok (.aload_n 0, 1) := by decide +kernel
theorem dX12_acts_121 : decode cX12_acts 121 = .ok (.getfield 53, 3) := by decide +kernel
theorem dX12_acts_124 : decode cX12_acts 124 = .ok (.aload_n 0, 1) := by decide +kernel
theorem dX12_acts_125 : decode cX12_acts 125 = .ok (.getfield 155, 3) := by decide +kernel
theorem dX12_acts_128 : decode cX12_acts 128 = .ok (.iaload, 1) := by decide +kernel
theorem dX12_acts_129 : decode cX12_acts 129 = .ok (.invokevirtual 381, 3) := by decide +kernel
theorem dX12_acts_132 : decode cX12_acts 132 = .ok (.goto 140, 3) := by decide +kernel
theorem dX12_acts_135 : decode cX12_acts 135 = .ok (.aload_n 0, 1) := by decide +kernel
theorem dX12_acts_136 : decode cX12_acts 136 = .ok (.iload_n 2, 1) := by decide +kernel
theorem dX12_acts_137 : decode cX12_acts 137 = .ok (.iconst 0, 1) := by decide +kernel
theorem dX12_acts_138 : decode cX12_acts 138 = .ok (.iload_n 3, 1) := by decide +kernel
theorem dX12_acts_139 : decode cX12_acts 139 = .ok (.invokevirtual 381, 3) := by decide +kernel
theorem dX12_acts_142 : decode cX12_acts 142 = .ok (.goto 130, 3) := by decide +kernel
theorem dX12_acts_145 : decode cX12_acts 145 = .ok (.aload_n 0, 1) := by decide +kernel
theorem dX12_acts_146 : decode cX12_acts 146 = .ok (.iload_n 2, 1) := by decide +kernel
theorem dX12_acts_147 : decode cX12_acts 147 = .ok (.iconst 1, 1) := by decide +kernel
theorem dX12_acts_148 : decode cX12_acts 148 = .ok (.iload_n 3, 1) := by decide +kernel
theorem dX12_acts_149 : decode cX12_acts 149 = .ok (.invokevirtual 381, 3) := by decide +kernel
theorem dX12_acts_152 : decode cX12_acts 152 = .ok (.goto 120, 3) := by decide +kernel
theorem dX12_acts_155 : decode cX12_acts 155 = .ok (.aload_n 0, 1) := by decide +kernel
theorem dX12_acts_156 : decode cX12_acts 156 = .ok (.getfield 56, 3) := by decide +kernel
theorem dX12_acts_159 : decode cX12_acts 159 = .ok (.iload_n 2, 1) := by decide +kernel
theorem dX12_acts_160 : decode cX12_acts 160 = .ok (.iload_n 1, 1) := by decide +kernel
theorem dX12_acts_161 : decode cX12_acts 161 = .ok (.iconst 5, 1) := by decide +kernel
theorem dX12_acts_162 : decode cX12_acts 162 = .ok (.if_icmp .ne 7, 3) := by decide +kernel
theorem dX12_acts_165 : decode cX12_acts 165 = .ok (.iconst 1, 1) := by decide +kernel
theorem dX12_acts_166 : decode cX12_acts 166 = .ok (.goto 4, 3) := by decide +kernel
theorem dX12_acts_169 : decode cX12_acts 169 = .ok (.iconst 0, 1) := by decide +kernel
theorem dX12_acts_170 : decode cX12_acts 170 = .ok (.bastore, 1) := by decide +kernel
theorem dX12_acts_171 : decode cX12_acts 171 = .ok (.goto 101, 3) := by decide +kernel
theorem dX12_acts_174 : decode cX12_acts 174 = .ok (.aload_n 0, 1) := by decide +kernel
theorem dX12_acts_175 : decode cX12_acts 175 = .ok (.getfield 59, 3) := by decide +kernel
theorem dX12_acts_178 : decode cX12_acts 178 = .ok (.iload_n 2, 1) := by decide +kernel
theorem dX12_acts_179 : decode cX12_acts 179 = .ok (.iload_n 1, 1) := by decide +kernel
theorem dX12_acts_180 : decode cX12_acts 180 = .ok (.bipush 8, 2) := by decide +kernel
theorem dX12_acts_182 : decode cX12_acts 182 = .ok (.if_icmp .ne 7, 3) := by decide +kernel
theorem dX12_acts_185 : decode cX12_acts 185 = .ok (.iconst 1, 1) := by decide +kernel
theorem dX12_acts_186 : decode cX12_acts 186 = .ok (.goto 4, 3) := by decide +kernel
theorem dX12_acts_189 : decode cX12_acts 189 = .ok (.iconst 0, 1) := by decide +kernel
theorem dX12_acts_190 : decode cX12_acts 190 = .ok (.bastore, 1) := by decide +kernel
theorem dX12_acts_191 : decode cX12_acts 191 = .ok (.goto 81, 3) := by decide +kernel
theorem dX12_acts_194 : decode cX12_acts 194 = .ok (.aload_n 0, 1) := by decide +kernel
theorem dX12_acts_195 : decode cX12_acts 195 = .ok (.iload_n 2, 1) := by decide +kernel
theorem dX12_acts_196 : decode cX12_acts 196 = .ok (.iconst 3, 1) := by decide +kernel
theorem dX12_acts_197 : decode cX12_acts 197 = .ok (.aload_n 0, 1) := by decide +kernel
theorem dX12_acts_198 : decode cX12_acts 198 = .ok (.getfield 155, 3) := by decide +kernel
theorem dX12_acts_201 : decode cX12_acts 201 = .ok (.invokevirtual 381, 3) := by decide +kernel
theorem dX12_acts_204 : decode cX12_acts 204 = .ok (.goto 68, 3) := by decide +kernel
theorem dX12_acts_207 : decode cX12_acts 207 = .ok (.aload_n 0, 1) := by decide +kernel
theorem dX12_acts_208 : decode cX12_acts 208 = .ok (.aload_n 0, 1) := by decide +kernel
theorem dX12_acts_209 : decode cX12_acts 209 = .ok (.getfield 155, 3) := by decide +kernel
theorem dX12_acts_212 : decode cX12_acts 212 = .ok (.aload_n 0, 1) := by decide +kernel
theorem dX12_acts_213 : decode cX12_acts 213 = .ok (.getfield 98, 3) := by decide +kernel
theorem dX12_acts_216 : decode cX12_acts 216 = .ok (.iload_n 2, 1) := by decide +kernel
theorem dX12_acts_217 : decode cX12_acts 217 = .ok (.baload, 1) := by decide +kernel
theorem dX12_acts_218 : decode cX12_acts 218 = .ok (.ifCond .eq 7, 3) := by decide +kernel
theorem dX12_acts_221 : decode cX12_acts 221 = .ok (.iconst 0, 1) := by decide +kernel
theorem dX12_acts_222 : decode cX12_acts 222 = .ok (.goto 4, 3) := by decide +kernel
theorem dX12_acts_225 : decode cX12_acts 225 = .ok (.iconst 1, 1) := by decide +kernel
theorem dX12_acts_226 : decode cX12_acts 226 = .ok (.iload_n 2, 1) := by decide +kernel
theorem dX12_acts_227 : decode cX12_acts 227 = .ok (.invokevirtual 381, 3) := by decide +kernel
theorem dX12_acts_230 : decode cX12_acts 230 = .ok (.goto 42, 3) := by decide +kernel
theorem dX12_acts_233 : decode cX12_acts 233 = .ok (.aload_n 0, 1) := by decide +kernel
theorem dX12_acts_234 : decode cX12_acts 234 = .ok (.aload_n 0, 1) := by decide +kernel
theorem dX12_acts_235 : decode cX12_acts 235 = .ok (.getfield 155, 3) := by decide +kernel
theorem dX12_acts_238 : decode cX12_acts 238 = .ok (.aload_n 0, 1) := by decide +kernel
theorem dX12_acts_239 : decode cX12_acts 239 = .ok (.getfield 50, 3) := by decide +kernel
theorem dX12_acts_242 : decode cX12_acts 242 = .ok (.aload_n 0, 1) := by decide +kernel
theorem dX12_acts_243 : decode cX12_acts 243 = .ok (.getfield 53, 3) := by decide +kernel
theorem dX12_acts_246 : decode cX12_acts 246 = .ok (.aload_n 0, 1) := by decide +kernel
theorem dX12_acts_247 : decode cX12_acts 247 = .ok (.getfield 155, 3) := by decide +kernel
theorem dX12_acts_250 : decode cX12_acts 250 = .ok (.iaload, 1) := by decide +kernel
theorem dX12_acts_251 : decode cX12_acts 251 = .ok (.iaload, 1) := by decide +kernel
theorem dX12_acts_252 : decode cX12_acts 252 = .ok (.aload_n 0, 1) := by decide +kernel
theorem dX12_acts_253 : decode cX12_acts 253 = .ok (.getfield 53, 3) := by decide +kernel
theorem dX12_acts_256 : decode cX12_acts 256 = .ok (.aload_n 0, 1) := by decide +kernel
theorem dX12_acts_257 : decode cX12_acts 257 = .ok (.getfield 53, 3) := by decide +kernel
theorem dX12_acts_260 : decode cX12_acts 260 = .ok (.aload_n 0, 1) := by decide +kernel
theorem dX12_acts_261 : decode cX12_acts 261 = .ok (.getfield 155, 3) := by decide +kernel
theorem dX12_acts_264 : decode cX12_acts 264 = .ok (.iaload, 1) := by decide +kernel
theorem dX12_acts_265 : decode cX12_acts 265 = .ok (.iaload, 1) := by decide +kernel
theorem dX12_acts_266 : decode cX12_acts 266 = .ok (.invokevirtual 381, 3) := by decide +kernel
theorem dX12_acts_269 : decode cX12_acts 269 = .ok (.goto 3, 3) := by decide +kernel
theorem dX12_acts_272 : decode cX12_acts 272 = .ok (.return_, 1) := by decide +kernel
theorem dX12_hasSecond_0 : decode cX12_hasSecond 0 = .ok (.iload_n 0, 1) := by decide +kernel
theorem dX12_hasSecond_1 : decode cX12_hasSecond 1 = .ok (.iconst 3, 1) := by decide +kernel
theorem dX12_hasSecond_2 : decode cX12_hasSecond 2 = .ok (.if_icmp .eq 20, 3) := by decide +kernel
theorem dX12_hasSecond_5 : decode cX12_hasSecond 5 = .ok (.iload_n 0, 1) := by decide +kernel
theorem dX12_hasSecond_6 : decode cX12_hasSecond 6 = .ok (.iconst 4, 1) := by decide +kernel
theorem dX12_hasSecond_7 : decode cX12_hasSecond 7 = .ok (.if_icmp .eq 15, 3) := by decide +kernel
theorem dX12_hasSecond_10 : decode cX12_hasSecond 10 = .ok (.iload_n 0, 1) := by decide +kernel
theorem dX12_hasSecond_11 : decode cX12_hasSecond 11 = .ok (.bipush 7, 2) := by decide +kernel
theorem dX12_hasSecond_13 : decode cX12_hasSecond 13 = .ok (.if_icmp .eq 9, 3) := by decide +kernel
theorem dX12_hasSecond_16 : decode cX12_hasSecond 16 = .ok (.iload_n 0, 1) := by decide +kernel
theorem dX12_hasSecond_17 : decode cX12_hasSecond 17 = .ok (.bipush 8, 2) := by decide +kernel
theorem dX12_hasSecond_19 : decode cX12_hasSecond 19 = .ok (.if_icmp .ne 7, 3) := by decide +kernel
theorem dX12_hasSecond_22 : decode cX12_hasSecond 22 = .ok (.iconst 1, 1) := by decide +kernel
theorem dX12_hasSecond_23 : decode cX12_hasSecond 23 = .ok (.goto 4, 3) := by decide +kernel
theorem dX12_hasSecond_26 : decode cX12_hasSecond 26 = .ok (.iconst 0, 1) := by decide +kernel
theorem dX12_hasSecond_27 : decode cX12_hasSecond 27 = .ok (.ireturn, 1) := by decide +kernel
theorem dX12_act_0 : decode cX12_act 0 = .ok (.iload_n 1, 1) := by decide +kernel
theorem dX12_act_1 : decode cX12_act 1 = .ok (.i2l, 1) := by decide +kernel
theorem dX12_act_2 : decode cX12_act 2 = .ok (.lconst 0, 1) := by decide +kernel
theorem dX12_act_3 : decode cX12_act 3 = .ok (.ldc2_w 385, 3) := by decide +kernel
theorem dX12_act_6 : decode cX12_act 6 = .ok (.invokestatic 166, 3) := by decide +kernel
theorem dX12_act_9 : decode cX12_act 9 = .ok (.ifCond .eq 54, 3) := by decide +kernel
theorem dX12_act_12 : decode cX12_act 12 = .ok (.iload_n 1, 1) := by decide +kernel
theorem dX12_act_13 : decode cX12_act 13 = .ok (.ifCond .ne 15, 3) := by decide +kernel
theorem dX12_act_16 : decode cX12_act 16 = .ok (.iload_n 2, 1) := by decide +kernel
theorem dX12_act_17 : decode cX12_act 17 = .ok (.i2l, 1) := by decide +kernel
theorem dX12_act_18 : decode cX12_act 18 = .ok (.lconst 0, 1) := by decide +kernel
theorem dX12_act_19 : decode cX12_act 19 = .ok (.ldc2_w 197, 3) := by decide +kernel
theorem dX12_act_22 : decode cX12_act 22 = .ok (.invokestatic 166, 3) := by decide +kernel
theorem dX12_act_25 : decode cX12_act 25 = .ok (.ifCond .eq 38, 3) := by decide +kernel
theorem dX12_act_28 : decode cX12_act 28 = .ok (.iload_n 1, 1) := by decide +kernel
theorem dX12_act_29 : decode cX12_act 29 = .ok (.i2l, 1) := by decide +kernel
theorem dX12_act_30 : decode cX12_act 30 = .ok (.lconst 1, 1) := by decide +kernel
theorem dX12_act_31 : decode cX12_act 31 = .ok (.ldc2_w 387, 3) := by decide +kernel
theorem dX12_act_34 : decode cX12_act 34 = .ok (.invokestatic 166, 3) := by decide +kernel
theorem dX12_act_37 : decode cX12_act 37 = .ok (.ifCond .eq 11, 3) := by decide +kernel
theorem dX12_act_40 : decode cX12_act 40 = .ok (.aload_n 0, 1) := by decide +kernel
theorem dX12_act_41 : decode cX12_act 41 = .ok (.iload_n 2, 1) := by decide +kernel
theorem dX12_act_42 : decode cX12_act 42 = .ok (.invokevirtual 180, 3) := by decide +kernel
theorem dX12_act_45 : decode cX12_act 45 = .ok (.ifCond .eq 18, 3) := by decide +kernel
theorem dX12_act_48 : decode cX12_act 48 = .ok (.iload_n 1, 1) := by decide +kernel
theorem dX12_act_49 : decode cX12_act 49 = .ok (.invokestatic 389, 3) := by decide +kernel
theorem dX12_act_52 : decode cX12_act 52 = .ok (.ifCond .eq 13, 3) := by decide +kernel
theorem dX12_act_55 : decode cX12_act 55 = .ok (.aload_n 0, 1) := by decide +kernel
theorem dX12_act_56 : decode cX12_act 56 = .ok (.iload_n 3, 1) := by decide +kernel
theorem dX12_act_57 : decode cX12_act 57 = .ok (.invokevirtual 180, 3) := by decide +kernel
theorem dX12_act_60 : decode cX12_act 60 = .ok (.ifCond .ne 5, 3) := by decide +kernel
theorem dX12_act_63 : decode cX12_act 63 = .ok (.iconst (-1), 1) := by decide +kernel
theorem dX12_act_64 : decode cX12_act 64 = .ok (.ireturn, 1) := by decide +kernel
theorem dX12_act_65 : decode cX12_act 65 = .ok (.aload_n 0, 1) := by decide +kernel
theorem dX12_act_66 : decode cX12_act 66 = .ok (.getfield 155, 3) := by decide +kernel
theorem dX12_act_69 : decode cX12_act 69 = .ok (.bipush (-9), 2) := by decide +kernel
theorem dX12_act_71 : decode cX12_act 71 = .ok (.if_icmp .eq 15, 3) := by decide +kernel
theorem dX12_act_74 : decode cX12_act 74 = .ok (.aload_n 0, 1) := by decide +kernel
theorem dX12_act_75 : decode cX12_act 75 = .ok (.getfield 291, 3) := by decide +kernel
theorem dX12_act_78 : decode cX12_act 78 = .ok (.bipush 100, 2) := by decide +kernel
theorem dX12_act_80 : decode cX12_act 80 = .ok (.if_icmp .ne 6, 3) := by decide +kernel
theorem dX12_act_83 : decode cX12_act 83 = .ok (.bipush (-2), 2) := by decide +kernel
theorem dX12_act_85 : decode cX12_act 85 = .ok (.ireturn, 1) := by decide +kernel
theorem dX12_act_86 : decode cX12_act 86 = .ok (.aload_n 0, 1) := by decide +kernel
theorem dX12_act_87 : decode cX12_act 87 = .ok (.getfield 155, 3) := by decide +kernel
theorem dX12_act_90 : decode cX12_act 90 = .ok (.bipush (-9), 2) := by decide +kernel
theorem dX12_act_92 : decode cX12_act 92 = .ok (.if_icmp .ne 6, 3) := by decide +kernel
theorem dX12_act_95 : decode cX12_act 95 = .ok (.bipush (-5), 2) := by decide +kernel
theorem dX12_act_97 : decode cX12_act 97 = .ok (.ireturn, 1) := by decide +kernel
theorem dX12_act_98 : decode cX12_act 98 = .ok (.aload_n 0, 1) := by decide +kernel
theorem dX12_act_99 : decode cX12_act 99 = .ok (.invokevirtual 392, 3) := by decide +kernel
theorem dX12_act_102 : decode cX12_act 102 = .ok (.aload_n 0, 1) := by decide +kernel
theorem dX12_act_103 : decode cX12_act 103 = .ok (.invokevirtual 395, 3) := by decide +kernel
theorem dX12_act_106 : decode cX12_act 106 = .ok (.aload_n 0, 1) := by decide +kernel
theorem dX12_act_107 : decode cX12_act 107 = .ok (.iload_n 1, 1) := by decide +kernel
theorem dX12_act_108 : decode cX12_act 108 = .ok (.iload_n 2, 1) := by decide +kernel
theorem dX12_act_109 : decode cX12_act 109 = .ok (.iload_n 3, 1) := by decide +kernel
theorem dX12_act_110 : decode cX12_act 110 = .ok (.invokevirtual 398, 3) := by decide +kernel
theorem dX12_act_113 : decode cX12_act 113 = .ok (.istore 4, 2) := by decide +kernel
theorem dX12_act_115 : decode cX12_act 115 = .ok (.iload 4, 2) := by decide +kernel
theorem dX12_act_117 : decode cX12_act 117 = .ok (.ifCond .le 6, 3) := by decide +kernel
theorem dX12_act_120 : decode cX12_act 120 = .ok (.iload 4, 2) := by decide +kernel
theorem dX12_act_122 : decode cX12_act 122 = .ok (.ireturn, 1) := by decide +kernel
theorem dX12_act_123 : decode cX12_act 123 = .ok (.iconst 0, 1) := by decide +kernel
theorem dX12_act_124 : decode cX12_act 124 = .ok (.istore 5, 2) := by decide +kernel
theorem dX12_act_126 : decode cX12_act 126 = .ok (.iload 5, 2) := by decide +kernel
theorem dX12_act_128 : decode cX12_act 128 = .ok (.bipush 30, 2) := by decide +kernel
theorem dX12_act_130 : decode cX12_act 130 = .ok (.if_icmp .ge 97, 3) := by decide +kernel
theorem dX12_act_133 : decode cX12_act 133 = .ok (.aload_n 0, 1) := by decide +kernel
theorem dX12_act_134 : decode cX12_act 134 = .ok (.getfield 65, 3) := by decide +kernel
theorem dX12_act_137 : decode cX12_act 137 = .ok (.bipush 30, 2) := by decide +kernel
theorem dX12_act_139 : decode cX12_act 139 = .ok (.aload_n 0, 1) := by decide +kernel
theorem dX12_act_140 : decode cX12_act 140 = .ok (.getfield 291, 3) := by decide +kernel
theorem dX12_act_143 : decode cX12_act 143 = .ok (.imul, 1) := by decide +kernel
theorem dX12_act_144 : decode cX12_act 144 = .ok (.iload 5, 2) := by decide +kernel
theorem dX12_act_146 : decode cX12_act 146 = .ok (.iadd, 1) := by decide +kernel
theorem dX12_act_147 : decode cX12_act 147 = .ok (.aload_n 0, 1) := by decide +kernel
theorem dX12_act_148 : decode cX12_act 148 = .ok (.getfield 50, 3) := by decide +kernel
theorem dX12_act_151 : decode cX12_act 151 = .ok (.iload 5, 2) := by decide +kernel
theorem dX12_act_153 : decode cX12_act 153 = .ok (.iaload, 1) := by decide +kernel
theorem dX12_act_154 : decode cX12_act 154 = .ok (.iastore, 1) := by decide +kernel
theorem dX12_act_155 : decode cX12_act 155 = .ok (.aload_n 0, 1) := by decide +kernel
theorem dX12_act_156 : decode cX12_act 156 = .ok (.getfield 68, 3) := by decide +kernel
theorem dX12_act_159 : decode cX12_act 159 = .ok (.bipush 30, 2) := by decide +kernel
theorem dX12_act_161 : decode cX12_act 161 = .ok (.aload_n 0, 1) := by decide +kernel
theorem dX12_act_162 : decode cX12_act 162 = .ok (.getfield 291, 3) := by decide +kernel
theorem dX12_act_165 : decode cX12_act 165 = .ok (.imul, 1) := by decide +kernel
theorem dX12_act_166 : decode cX12_act 166 = .ok (.iload 5, 2) := by decide +kernel
theorem dX12_act_168 : decode cX12_act 168 = .ok (.iadd, 1) := by decide +kernel
theorem dX12_act_169 : decode cX12_act 169 = .ok (.aload_n 0, 1) := by decide +kernel
theorem dX12_act_170 : decode cX12_act 170 = .ok (.getfield 53, 3) := by decide +kernel
theorem dX12_act_173 : decode cX12_act 173 = .ok (.iload 5, 2) := by decide +kernel
theorem dX12_act_175 : decode cX12_act 175 = .ok (.iaload, 1) := by decide +kernel
theorem dX12_act_176 : decode cX12_act 176 = .ok (.iastore, 1) := by decide +kernel
theorem dX12_act_177 : decode cX12_act 177 = .ok (.aload_n 0, 1) := by decide +kernel
theorem dX12_act_178 : decode cX12_act 178 = .ok (.getfield 71, 3) := by decide +kernel
theorem dX12_act_181 : decode cX12_act 181 = .ok (.bipush 30, 2) := by decide +kernel
theorem dX12_act_183 : decode cX12_act 183 = .ok (.aload_n 0, 1) := by decide +kernel
theorem dX12_act_184 : decode cX12_act 184 = .ok (.getfield 291, 3) := by decide +kernel
theorem dX12_act_187 : decode cX12_act 187 = .ok (.imul, 1) := by decide +kernel
theorem dX12_act_188 : decode cX12_act 188 = .ok (.iload 5, 2) := by decide +kernel
theorem dX12_act_190 : decode cX12_act 190 = .ok (.iadd, 1) := by decide +kernel
theorem dX12_act_191 : decode cX12_act 191 = .ok (.aload_n 0, 1) := by decide +kernel
theorem dX12_act_192 : decode cX12_act 192 = .ok (.getfield 56, 3) := by decide +kernel
theorem dX12_act_195 : decode cX12_act 195 = .ok (.iload 5, 2) := by decide +kernel
theorem dX12_act_197 : decode cX12_act 197 = .ok (.baload, 1) := by decide +kernel
theorem dX12_act_198 : decode cX12_act 198 = .ok (.bastore, 1) := by decide +kernel
theorem dX12_act_199 : decode cX12_act 199 = .ok (.aload_n 0, 1) := by decide +kernel
theorem dX12_act_200 : decode cX12_act 200 = .ok (.getfield 74, 3) := by decide +kernel
theorem dX12_act_203 : decode cX12_act 203 = .ok (.bipush 30, 2) := by decide +kernel
theorem dX12_act_205 : decode cX12_act 205 = .ok (.aload_n 0, 1) := by decide +kernel
theorem dX12_act_206 : decode cX12_act 206 = .ok (.getfield 291, 3) := by decide +kernel
theorem dX12_act_209 : decode cX12_act 209 = .ok (.imul, 1) := by decide +kernel
theorem dX12_act_210 : decode cX12_act 210 = .ok (.iload 5, 2) := by decide +kernel
theorem dX12_act_212 : decode cX12_act 212 = .ok (.iadd, 1) := by decide +kernel
theorem dX12_act_213 : decode cX12_act 213 = .ok (.aload_n 0, 1) := by decide +kernel
theorem dX12_act_214 : decode cX12_act 214 = .ok (.getfield 59, 3) := by decide +kernel
theorem dX12_act_217 : decode cX12_act 217 = .ok (.iload 5, 2) := by decide +kernel
theorem dX12_act_219 : decode cX12_act 219 = .ok (.baload, 1) := by decide +kernel
theorem dX12_act_220 : decode cX12_act 220 = .ok (.bastore, 1) := by decide +kernel
theorem dX12_act_221 : decode cX12_act 221 = .ok (.iinc 5 1, 3) := by decide +kernel
theorem dX12_act_224 : decode cX12_act 224 = .ok (.goto (-98), 3) := by decide +kernel
theorem dX12_act_227 : decode cX12_act 227 = .ok (.aload_n 0, 1) := by decide +kernel
theorem dX12_act_228 : decode cX12_act 228 = .ok (.getfield 62, 3) := by decide +kernel
theorem dX12_act_231 : decode cX12_act 231 = .ok (.iconst 3, 1) := by decide +kernel
theorem dX12_act_232 : decode cX12_act 232 = .ok (.aload_n 0, 1) := by decide +kernel
theorem dX12_act_233 : decode cX12_act 233 = .ok (.getfield 291, 3) := by decide +kernel
theorem dX12_act_236 : decode cX12_act 236 = .ok (.imul, 1) := by decide +kernel
theorem dX12_act_237 : decode cX12_act 237 = .ok (.iload_n 1, 1) := by decide +kernel
theorem dX12_act_238 : decode cX12_act 238 = .ok (.iastore, 1) := by decide +kernel
theorem dX12_act_239 : decode cX12_act 239 = .ok (.aload_n 0, 1) := by decide +kernel
theorem dX12_act_240 : decode cX12_act 240 = .ok (.getfield 62, 3) := by decide +kernel
theorem dX12_act_243 : decode cX12_act 243 = .ok (.iconst 3, 1) := by decide +kernel
theorem dX12_act_244 : decode cX12_act 244 = .ok (.aload_n 0, 1) := by decide +kernel
theorem dX12_act_245 : decode cX12_act 245 = .ok (.getfield 291, 3) := by decide +kernel
theorem dX12_act_248 : decode cX12_act 248 = .ok (.imul, 1) := by decide +kernel
theorem dX12_act_249 : decode cX12_act 249 = .ok (.iconst 1, 1) := by decide +kernel
theorem dX12_act_250 : decode cX12_act 250 = .ok (.iadd, 1) := by decide +kernel
theorem dX12_act_251 : decode cX12_act 251 = .ok (.iload_n 1, 1) := by decide +kernel
theorem dX12_act_252 : decode cX12_act 252 = .ok (.bipush 11, 2) := by decide +kernel
theorem dX12_act_254 : decode cX12_act 254 = .ok (.if_icmp .ge 7, 3) := by decide +kernel
theorem dX12_act_257 : decode cX12_act 257 = .ok (.iload_n 2, 1) := by decide +kernel
theorem dX12_act_258 : decode cX12_act 258 = .ok (.goto 4, 3) := by decide +kernel
theorem dX12_act_261 : decode cX12_act 261 = .ok (.iconst 0, 1) := by decide +kernel
theorem dX12_act_262 : decode cX12_act 262 = .ok (.iastore, 1) := by decide +kernel
theorem dX12_act_263 : decode cX12_act 263 = .ok (.aload_n 0, 1) := by decide +kernel
theorem dX12_act_264 : decode cX12_act 264 = .ok (.getfield 62, 3) := by decide +kernel
theorem dX12_act_267 : decode cX12_act 267 = .ok (.iconst 3, 1) := by decide +kernel
theorem dX12_act_268 : decode cX12_act 268 = .ok (.aload_n 0, 1) := by decide +kernel
theorem dX12_act_269 : decode cX12_act 269 = .ok (.getfield 291, 3) := by decide +kernel
theorem dX12_act_272 : decode cX12_act 272 = .ok (.imul, 1) := by decide +kernel
theorem dX12_act_273 : decode cX12_act 273 = .ok (.iconst 2, 1) := by decide +kernel
theorem dX12_act_274 : decode cX12_act 274 = .ok (.iadd, 1) := by decide +kernel
theorem dX12_act_275 : decode cX12_act 275 = .ok (.iload_n 1, 1) := by decide +kernel
theorem dX12_act_276 : decode cX12_act 276 = .ok (.invokestatic 389, 3) := by decide +kernel
theorem dX12_act_279 : decode cX12_act 279 = .ok (.ifCond .eq 7, 3) := by decide +kernel
theorem dX12_act_282 : decode cX12_act 282 = .ok (.iload_n 3, 1) := by decide +kernel
theorem dX12_act_283 : decode cX12_act 283 = .ok (.goto 4, 3) := by decide +kernel
theorem dX12_act_286 : decode cX12_act 286 = .ok (.iconst 0, 1) := by decide +kernel
theorem dX12_act_287 : decode cX12_act 287 = .ok (.iastore, 1) := by decide +kernel
theorem dX12_act_288 : decode cX12_act 288 = .ok (.aload_n 0, 1) := by decide +kernel
theorem dX12_act_289 : decode cX12_act 289 = .ok (.dup, 1) := by decide +kernel
theorem dX12_act_290 : decode cX12_act 290 = .ok (.getfield 291, 3) := by decide +kernel
theorem dX12_act_293 : decode cX12_act 293 = .ok (.iconst 1, 1) := by decide +kernel
theorem dX12_act_294 : decode cX12_act 294 = .ok (.iadd, 1) := by decide +kernel
theorem dX12_act_295 : decode cX12_act 295 = .ok (.putfield 291, 3) := by decide +kernel
theorem dX12_act_298 : decode cX12_act 298 = .ok (.aload_n 0, 1) := by decide +kernel
theorem dX12_act_299 : decode cX12_act 299 = .ok (.iload_n 1, 1) := by decide +kernel
theorem dX12_act_300 : decode cX12_act 300 = .ok (.iload_n 2, 1) := by decide +kernel
theorem dX12_act_301 : decode cX12_act 301 = .ok (.iload_n 3, 1) := by decide +kernel
theorem dX12_act_302 : decode cX12_act 302 = .ok (.invokevirtual 401, 3) := by decide +kernel
theorem dX12_act_305 : decode cX12_act 305 = .ok (.iconst 0, 1) := by decide +kernel
theorem dX12_act_306 : decode cX12_act 306 = .ok (.ireturn, 1) := by decide +kernel
theorem dX12_back_0 : decode cX12_back 0 = .ok (.aload_n 0, 1) := by decide +kernel
theorem dX12_back_1 : decode cX12_back 1 = .ok (.getfield 155, 3) := by decide +kernel
theorem dX12_back_4 : decode cX12_back 4 = .ok (.bipush (-9), 2) := by decide +kernel
theorem dX12_back_6 : decode cX12_back 6 = .ok (.if_icmp .eq 10, 3) := by decide +kernel
theorem dX12_back_9 : decode cX12_back 9 = .ok (.aload_n 0, 1) := by decide +kernel
theorem dX12_back_10 : decode cX12_back 10 = .ok (.getfield 291, 3) := by decide +kernel
theorem dX12_back_13 : decode cX12_back 13 = .ok (.ifCond .ne 6, 3) := by decide +kernel
theorem dX12_back_16 : decode cX12_back 16 = .ok (.bipush (-5), 2) := by decide +kernel
theorem dX12_back_18 : decode cX12_back 18 = .ok (.ireturn, 1) := by decide +kernel
theorem dX12_back_19 : decode cX12_back 19 = .ok (.aload_n 0, 1) := by decide +kernel
theorem dX12_back_20 : decode cX12_back 20 = .ok (.dup, 1) := by decide +kernel
theorem dX12_back_21 : decode cX12_back 21 = .ok (.getfield 291, 3) := by decide +kernel
theorem dX12_back_24 : decode cX12_back 24 = .ok (.iconst 1, 1) := by decide +kernel
theorem dX12_back_25 : decode cX12_back 25 = .ok (.isub, 1) := by decide +kernel
theorem dX12_back_26 : decode cX12_back 26 = .ok (.putfield 291, 3) := by decide +kernel
theorem dX12_back_29 : decode cX12_back 29 = .ok (.iconst 0, 1) := by decide +kernel
theorem dX12_back_30 : decode cX12_back 30 = .ok (.istore_n 1, 1) := by decide +kernel
theorem dX12_back_31 : decode cX12_back 31 = .ok (.iload_n 1, 1) := by decide +kernel
theorem dX12_back_32 : decode cX12_back 32 = .ok (.bipush 30, 2) := by decide +kernel
theorem dX12_back_34 : decode cX12_back 34 = .ok (.if_icmp .ge 89, 3) := by decide +kernel
theorem dX12_back_37 : decode cX12_back 37 = .ok (.aload_n 0, 1) := by decide +kernel
theorem dX12_back_38 : decode cX12_back 38 = .ok (.getfield 50, 3) := by decide +kernel
theorem dX12_back_41 : decode cX12_back 41 = .ok (.iload_n 1, 1) := by decide +kernel
theorem dX12_back_42 : decode cX12_back 42 = .ok (.aload_n 0, 1) := by decide +kernel
theorem dX12_back_43 : decode cX12_back 43 = .ok (.getfield 65, 3) := by decide +kernel
theorem dX12_back_46 : decode cX12_back 46 = .ok (.bipush 30, 2) := by decide +kernel
theorem dX12_back_48 : decode cX12_back 48 = .ok (.aload_n 0, 1) := by decide +kernel
theorem dX12_back_49 : decode cX12_back 49 = .ok (.getfield 291, 3) := by decide +kernel
theorem dX12_back_52 : decode cX12_back 52 = .ok (.imul, 1) := by decide +kernel
theorem dX12_back_53 : decode cX12_back 53 = .ok (.iload_n 1, 1) := by decide +kernel
theorem dX12_back_54 : decode cX12_back 54 = .ok (.iadd, 1) := by decide +kernel
theorem dX12_back_55 : decode cX12_back 55 = .ok (.iaload, 1) := by decide +kernel
theorem dX12_back_56 : decode cX12_back 56 = .ok (.iastore, 1) := by decide +kernel
theorem dX12_back_57 : decode cX12_back 57 = .ok (.aload_n 0, 1) := by decide +kernel
theorem dX12_back_58 : decode cX12_back 58 = .ok (.getfield 53, 3) := by decide +kernel
theorem dX12_back_61 : decode cX12_back 61 = .ok (.iload_n 1, 1) := by decide +kernel
theorem dX12_back_62 : decode cX12_back 62 = .ok (.aload_n 0, 1) := by decide +kernel
theorem dX12_back_63 : decode cX12_back 63 = .ok (.getfield 68, 3) := by decide +kernel
theorem dX12_back_66 : decode cX12_back 66 = .ok (.bipush 30, 2) := by decide +kernel
theorem dX12_back_68 : decode cX12_back 68 = .ok (.aload_n 0, 1) := by decide +kernel
theorem dX12_back_69 : decode cX12_back 69 = .ok (.getfield 291, 3) := by decide +kernel
theorem dX12_back_72 : decode cX12_back 72 = .ok (.imul, 1) := by decide +kernel
theorem dX12_back_73 : decode cX12_back 73 = .ok (.iload_n 1, 1) := by decide +kernel
theorem dX12_back_74 : decode cX12_back 74 = .ok (.iadd, 1) := by decide +kernel
theorem dX12_back_75 : decode cX12_back 75 = .ok (.iaload, 1) := by decide +kernel
theorem dX12_back_76 : decode cX12_back 76 = .ok (.iastore, 1) := by decide +kernel
theorem dX12_back_77 : decode cX12_back 77 = .ok (.aload_n 0, 1) := by decide +kernel
theorem dX12_back_78 : decode cX12_back 78 = .ok (.getfield 56, 3) := by decide +kernel
theorem dX12_back_81 : decode cX12_back 81 = .ok (.iload_n 1, 1) := by decide +kernel
theorem dX12_back_82 : decode cX12_back 82 = .ok (.aload_n 0, 1) := by decide +kernel
theorem dX12_back_83 : decode cX12_back 83 = .ok (.getfield 71, 3) := by decide +kernel
theorem dX12_back_86 : decode cX12_back 86 = .ok (.bipush 30, 2) := by decide +kernel
theorem dX12_back_88 : decode cX12_back 88 = .ok (.aload_n 0, 1) := by decide +kernel
theorem dX12_back_89 : decode cX12_back 89 = .ok (.getfield 291, 3) := by decide +kernel
theorem dX12_back_92 : decode cX12_back 92 = .ok (.imul, 1) := by decide +kernel
theorem dX12_back_93 : decode cX12_back 93 = .ok (.iload_n 1, 1) := by decide +kernel
theorem dX12_back_94 : decode cX12_back 94 = .ok (.iadd, 1) := by decide +kernel
theorem dX12_back_95 : decode cX12_back 95 = .ok (.baload, 1) := by decide +kernel
theorem dX12_back_96 : decode cX12_back 96 = .ok (.bastore, 1) := by decide +kernel
theorem dX12_back_97 : decode cX12_back 97 = .ok (.aload_n 0, 1) := by decide +kernel
theorem dX12_back_98 : decode cX12_back 98 = .ok (.getfield 59, 3) := by decide +kernel
theorem dX12_back_101 : decode cX12_back 101 = .ok (.iload_n 1, 1) := by decide +kernel
theorem dX12_back_102 : decode cX12_back 102 = .ok (.aload_n 0, 1) := by decide +kernel
theorem dX12_back_103 : decode cX12_back 103 = .ok (.getfield 74, 3) := by decide +kernel
theorem dX12_back_106 : decode cX12_back 106 = .ok (.bipush 30, 2) := by decide +kernel
theorem dX12_back_108 : decode cX12_back 108 = .ok (.aload_n 0, 1) := by decide +kernel
theorem dX12_back_109 : decode cX12_back 109 = .ok (.getfield 291, 3) := by decide +kernel
theorem dX12_back_112 : decode cX12_back 112 = .ok (.imul, 1) := by decide +kernel
theorem dX12_back_113 : decode cX12_back 113 = .ok (.iload_n 1, 1) := by decide +kernel
theorem dX12_back_114 : decode cX12_back 114 = .ok (.iadd, 1) := by decide +kernel
theorem dX12_back_115 : decode cX12_back 115 = .ok (.baload, 1) := by decide +kernel
theorem dX12_back_116 : decode cX12_back 116 = .ok (.bastore, 1) := by decide +kernel
theorem dX12_back_117 : decode cX12_back 117 = .ok (.iinc 1 1, 3) := by decide +kernel
theorem dX12_back_120 : decode cX12_back 120 = .ok (.goto (-89), 3) := by decide +kernel
theorem dX12_back_123 : decode cX12_back 123 = .ok (.aload_n 0, 1) := by decide +kernel
theorem dX12_back_124 : decode cX12_back 124 = .ok (.getfield 291, 3) := by decide +kernel
theorem dX12_back_127 : decode cX12_back 127 = .ok (.ireturn, 1) := by decide +kernel
theorem dX12_told_0 : decode cX12_told 0 = .ok (.iload_n 2, 1) := by decide +kernel
theorem dX12_told_1 : decode cX12_told 1 = .ok (.tableswitch 139 0 5 #[39, 46, 53, 81, 109, 124], 39) := by decide +kernel
theorem dX12_told_40 : decode cX12_told 40 = .ok (.aload_n 0, 1) := by decide +kernel
theorem dX12_told_41 : decode cX12_told 41 = .ok (.getfield 50, 3) := by decide +kernel
theorem dX12_told_44 : decode cX12_told 44 = .ok (.iload_n 1, 1) := by decide +kernel
theorem dX12_told_45 : decode cX12_told 45 = .ok (.iaload, 1) := by decide +kernel
theorem dX12_told_46 : decode cX12_told 46 = .ok (.ireturn, 1) := by decide +kernel
theorem dX12_told_47 : decode cX12_told 47 = .ok (.aload_n 0, 1) := by decide +kernel
theorem dX12_told_48 : decode cX12_told 48 = .ok (.getfield 53, 3) := by decide +kernel
theorem dX12_told_51 : decode cX12_told 51 = .ok (.iload_n 1, 1) := by decide +kernel
theorem dX12_told_52 : decode cX12_told 52 = .ok (.iaload, 1) := by decide +kernel
theorem dX12_told_53 : decode cX12_told 53 = .ok (.ireturn, 1) := by decide +kernel
theorem dX12_told_54 : decode cX12_told 54 = .ok (.aload_n 0, 1) := by decide +kernel
theorem dX12_told_55 : decode cX12_told 55 = .ok (.iload_n 1, 1) := by decide +kernel
theorem dX12_told_56 : decode cX12_told 56 = .ok (.invokevirtual 191, 3) := by decide +kernel
theorem dX12_told_59 : decode cX12_told 59 = .ok (.ifCond .eq 20, 3) := by decide +kernel
theorem dX12_told_62 : decode cX12_told 62 = .ok (.aload_n 0, 1) := by decide +kernel
theorem dX12_told_63 : decode cX12_told 63 = .ok (.getfield 56, 3) := by decide +kernel
theorem dX12_told_66 : decode cX12_told 66 = .ok (.iload_n 1, 1) := by decide +kernel
theorem dX12_told_67 : decode cX12_told 67 = .ok (.baload, 1) := by decide +kernel
theorem dX12_told_68 : decode cX12_told 68 = .ok (.ifCond .eq 7, 3) := by decide +kernel
theorem dX12_told_71 : decode cX12_told 71 = .ok (.iconst 1, 1) := by decide +kernel
theorem dX12_told_72 : decode cX12_told 72 = .ok (.goto 9, 3) := by decide +kernel
theorem dX12_told_75 : decode cX12_told 75 = .ok (.iconst 0, 1) := by decide +kernel
theorem dX12_told_76 : decode cX12_told 76 = .ok (.goto 5, 3) := by decide +kernel
theorem dX12_told_79 : decode cX12_told 79 = .ok (.bipush (-9), 2) := by decide +kernel
theorem dX12_told_81 : decode cX12_told 81 = .ok (.ireturn, 1) := by decide +kernel
theorem dX12_told_82 : decode cX12_told 82 = .ok (.aload_n 0, 1) := by decide +kernel
theorem dX12_told_83 : decode cX12_told 83 = .ok (.iload_n 1, 1) := by decide +kernel
theorem dX12_told_84 : decode cX12_told 84 = .ok (.invokevirtual 191, 3) := by decide +kernel
theorem dX12_told_87 : decode cX12_told 87 = .ok (.ifCond .eq 20, 3) := by decide +kernel
theorem dX12_told_90 : decode cX12_told 90 = .ok (.aload_n 0, 1) := by decide +kernel
theorem dX12_told_91 : decode cX12_told 91 = .ok (.getfield 59, 3) := by decide +kernel
theorem dX12_told_94 : decode cX12_told 94 = .ok (.iload_n 1, 1) := by decide +kernel
theorem dX12_told_95 : decode cX12_told 95 = .ok (.baload, 1) := by decide +kernel
theorem dX12_told_96 : decode cX12_told 96 = .ok (.ifCond .eq 7, 3) := by decide +kernel
theorem dX12_told_99 : decode cX12_told 99 = .ok (.iconst 1, 1) := by decide +kernel
theorem dX12_told_100 : decode cX12_told 100 = .ok (.goto 9, 3) := by decide +kernel
theorem dX12_told_103 : decode cX12_told 103 = .ok (.iconst 0, 1) := by decide +kernel
theorem dX12_told_104 : decode cX12_told 104 = .ok (.goto 5, 3) := by decide +kernel
theorem dX12_told_107 : decode cX12_told 107 = .ok (.bipush (-9), 2) := by decide +kernel
theorem dX12_told_109 : decode cX12_told 109 = .ok (.ireturn, 1) := by decide +kernel
theorem dX12_told_110 : decode cX12_told 110 = .ok (.aload_n 0, 1) := by decide +kernel
theorem dX12_told_111 : decode cX12_told 111 = .ok (.getfield 86, 3) := by decide +kernel
theorem dX12_told_114 : decode cX12_told 114 = .ok (.iload_n 1, 1) := by decide +kernel
theorem dX12_told_115 : decode cX12_told 115 = .ok (.baload, 1) := by decide +kernel
theorem dX12_told_116 : decode cX12_told 116 = .ok (.ifCond .eq 7, 3) := by decide +kernel
theorem dX12_told_119 : decode cX12_told 119 = .ok (.iconst 1, 1) := by decide +kernel
theorem dX12_told_120 : decode cX12_told 120 = .ok (.goto 4, 3) := by decide +kernel
theorem dX12_told_123 : decode cX12_told 123 = .ok (.iconst 0, 1) := by decide +kernel
theorem dX12_told_124 : decode cX12_told 124 = .ok (.ireturn, 1) := by decide +kernel
theorem dX12_told_125 : decode cX12_told 125 = .ok (.aload_n 0, 1) := by decide +kernel
theorem dX12_told_126 : decode cX12_told 126 = .ok (.getfield 89, 3) := by decide +kernel
theorem dX12_told_129 : decode cX12_told 129 = .ok (.iload_n 1, 1) := by decide +kernel
theorem dX12_told_130 : decode cX12_told 130 = .ok (.baload, 1) := by decide +kernel
theorem dX12_told_131 : decode cX12_told 131 = .ok (.ifCond .eq 7, 3) := by decide +kernel
theorem dX12_told_134 : decode cX12_told 134 = .ok (.iconst 1, 1) := by decide +kernel
theorem dX12_told_135 : decode cX12_told 135 = .ok (.goto 4, 3) := by decide +kernel
theorem dX12_told_138 : decode cX12_told 138 = .ok (.iconst 0, 1) := by decide +kernel
theorem dX12_told_139 : decode cX12_told 139 = .ok (.ireturn, 1) := by decide +kernel
theorem dX12_told_140 : decode cX12_told 140 = .ok (.aload_n 0, 1) := by decide +kernel
theorem dX12_told_141 : decode cX12_told 141 = .ok (.iload_n 1, 1) := by decide +kernel
theorem dX12_told_142 : decode cX12_told 142 = .ok (.invokevirtual 404, 3) := by decide +kernel
theorem dX12_told_145 : decode cX12_told 145 = .ok (.ireturn, 1) := by decide +kernel
theorem dX12_now_0 : decode cX12_now 0 = .ok (.aload_n 0, 1) := by decide +kernel
theorem dX12_now_1 : decode cX12_now 1 = .ok (.iload_n 1, 1) := by decide +kernel
theorem dX12_now_2 : decode cX12_now 2 = .ok (.invokevirtual 180, 3) := by decide +kernel
theorem dX12_now_5 : decode cX12_now 5 = .ok (.ifCond .eq 15, 3) := by decide +kernel
theorem dX12_now_8 : decode cX12_now 8 = .ok (.iload_n 2, 1) := by decide +kernel
theorem dX12_now_9 : decode cX12_now 9 = .ok (.i2l, 1) := by decide +kernel
theorem dX12_now_10 : decode cX12_now 10 = .ok (.lconst 0, 1) := by decide +kernel
theorem dX12_now_11 : decode cX12_now 11 = .ok (.ldc2_w 164, 3) := by decide +kernel
theorem dX12_now_14 : decode cX12_now 14 = .ok (.invokestatic 166, 3) := by decide +kernel
theorem dX12_now_17 : decode cX12_now 17 = .ok (.ifCond .ne 5, 3) := by decide +kernel
theorem dX12_now_20 : decode cX12_now 20 = .ok (.iconst (-1), 1) := by decide +kernel
theorem dX12_now_21 : decode cX12_now 21 = .ok (.ireturn, 1) := by decide +kernel
theorem dX12_now_22 : decode cX12_now 22 = .ok (.aload_n 0, 1) := by decide +kernel
theorem dX12_now_23 : decode cX12_now 23 = .ok (.getfield 155, 3) := by decide +kernel
theorem dX12_now_26 : decode cX12_now 26 = .ok (.bipush (-9), 2) := by decide +kernel
theorem dX12_now_28 : decode cX12_now 28 = .ok (.if_icmp .ne 6, 3) := by decide +kernel
theorem dX12_now_31 : decode cX12_now 31 = .ok (.bipush (-5), 2) := by decide +kernel
theorem dX12_now_33 : decode cX12_now 33 = .ok (.ireturn, 1) := by decide +kernel
theorem dX12_now_34 : decode cX12_now 34 = .ok (.aload_n 0, 1) := by decide +kernel
theorem dX12_now_35 : decode cX12_now 35 = .ok (.invokevirtual 392, 3) := by decide +kernel
theorem dX12_now_38 : decode cX12_now 38 = .ok (.aload_n 0, 1) := by decide +kernel
theorem dX12_now_39 : decode cX12_now 39 = .ok (.invokevirtual 395, 3) := by decide +kernel
theorem dX12_now_42 : decode cX12_now 42 = .ok (.aload_n 0, 1) := by decide +kernel
theorem dX12_now_43 : decode cX12_now 43 = .ok (.iload_n 1, 1) := by decide +kernel
theorem dX12_now_44 : decode cX12_now 44 = .ok (.iload_n 2, 1) := by decide +kernel
theorem dX12_now_45 : decode cX12_now 45 = .ok (.invokevirtual 407, 3) := by decide +kernel
theorem dX12_now_48 : decode cX12_now 48 = .ok (.ireturn, 1) := by decide +kernel
theorem dX12_turn_0 : decode cX12_turn 0 = .ok (.iload_n 1, 1) := by decide +kernel
theorem dX12_turn_1 : decode cX12_turn 1 = .ok (.ifCond .lt 15, 3) := by decide +kernel
theorem dX12_turn_4 : decode cX12_turn 4 = .ok (.iload_n 2, 1) := by decide +kernel
theorem dX12_turn_5 : decode cX12_turn 5 = .ok (.i2l, 1) := by decide +kernel
theorem dX12_turn_6 : decode cX12_turn 6 = .ok (.lconst 0, 1) := by decide +kernel
theorem dX12_turn_7 : decode cX12_turn 7 = .ok (.ldc2_w 254, 3) := by decide +kernel
theorem dX12_turn_10 : decode cX12_turn 10 = .ok (.invokestatic 166, 3) := by decide +kernel
theorem dX12_turn_13 : decode cX12_turn 13 = .ok (.ifCond .ne 5, 3) := by decide +kernel
theorem dX12_turn_16 : decode cX12_turn 16 = .ok (.iconst (-1), 1) := by decide +kernel
theorem dX12_turn_17 : decode cX12_turn 17 = .ok (.ireturn, 1) := by decide +kernel
theorem dX12_turn_18 : decode cX12_turn 18 = .ok (.aload_n 0, 1) := by decide +kernel
theorem dX12_turn_19 : decode cX12_turn 19 = .ok (.getfield 155, 3) := by decide +kernel
theorem dX12_turn_22 : decode cX12_turn 22 = .ok (.bipush (-9), 2) := by decide +kernel
theorem dX12_turn_24 : decode cX12_turn 24 = .ok (.if_icmp .ne 6, 3) := by decide +kernel
theorem dX12_turn_27 : decode cX12_turn 27 = .ok (.bipush (-5), 2) := by decide +kernel
theorem dX12_turn_29 : decode cX12_turn 29 = .ok (.ireturn, 1) := by decide +kernel
theorem dX12_turn_30 : decode cX12_turn 30 = .ok (.iload_n 1, 1) := by decide +kernel
theorem dX12_turn_31 : decode cX12_turn 31 = .ok (.aload_n 0, 1) := by decide +kernel
theorem dX12_turn_32 : decode cX12_turn 32 = .ok (.getfield 291, 3) := by decide +kernel
theorem dX12_turn_35 : decode cX12_turn 35 = .ok (.if_icmp .ge 16, 3) := by decide +kernel
theorem dX12_turn_38 : decode cX12_turn 38 = .ok (.aload_n 0, 1) := by decide +kernel
theorem dX12_turn_39 : decode cX12_turn 39 = .ok (.getfield 62, 3) := by decide +kernel
theorem dX12_turn_42 : decode cX12_turn 42 = .ok (.iconst 3, 1) := by decide +kernel
theorem dX12_turn_43 : decode cX12_turn 43 = .ok (.iload_n 1, 1) := by decide +kernel
theorem dX12_turn_44 : decode cX12_turn 44 = .ok (.imul, 1) := by decide +kernel
theorem dX12_turn_45 : decode cX12_turn 45 = .ok (.iload_n 2, 1) := by decide +kernel
theorem dX12_turn_46 : decode cX12_turn 46 = .ok (.iadd, 1) := by decide +kernel
theorem dX12_turn_47 : decode cX12_turn 47 = .ok (.iaload, 1) := by decide +kernel
theorem dX12_turn_48 : decode cX12_turn 48 = .ok (.goto 4, 3) := by decide +kernel
theorem dX12_turn_51 : decode cX12_turn 51 = .ok (.iconst (-1), 1) := by decide +kernel
theorem dX12_turn_52 : decode cX12_turn 52 = .ok (.ireturn, 1) := by decide +kernel
theorem dX12_light_0 : decode cX12_light 0 = .ok (.aload_n 0, 1) := by decide +kernel
theorem dX12_light_1 : decode cX12_light 1 = .ok (.getfield 155, 3) := by decide +kernel
theorem dX12_light_4 : decode cX12_light 4 = .ok (.bipush (-9), 2) := by decide +kernel
theorem dX12_light_6 : decode cX12_light 6 = .ok (.if_icmp .ne 6, 3) := by decide +kernel
theorem dX12_light_9 : decode cX12_light 9 = .ok (.bipush (-5), 2) := by decide +kernel
theorem dX12_light_11 : decode cX12_light 11 = .ok (.ireturn, 1) := by decide +kernel
theorem dX12_light_12 : decode cX12_light 12 = .ok (.aload_n 0, 1) := by decide +kernel
theorem dX12_light_13 : decode cX12_light 13 = .ok (.invokevirtual 392, 3) := by decide +kernel
theorem dX12_light_16 : decode cX12_light 16 = .ok (.aload_n 0, 1) := by decide +kernel
theorem dX12_light_17 : decode cX12_light 17 = .ok (.invokevirtual 395, 3) := by decide +kernel
theorem dX12_light_20 : decode cX12_light 20 = .ok (.aload_n 0, 1) := by decide +kernel
theorem dX12_light_21 : decode cX12_light 21 = .ok (.getfield 341, 3) := by decide +kernel
theorem dX12_light_24 : decode cX12_light 24 = .ok (.ifCond .eq 7, 3) := by decide +kernel
theorem dX12_light_27 : decode cX12_light 27 = .ok (.iconst 1, 1) := by decide +kernel
theorem dX12_light_28 : decode cX12_light 28 = .ok (.goto 4, 3) := by decide +kernel
theorem dX12_light_31 : decode cX12_light 31 = .ok (.iconst 0, 1) := by decide +kernel
theorem dX12_light_32 : decode cX12_light 32 = .ok (.ireturn, 1) := by decide +kernel
theorem dX12_keepState_0 : decode cX12_keepState 0 = .ok (.iconst 0, 1) := by decide +kernel
theorem dX12_keepState_1 : decode cX12_keepState 1 = .ok (.istore_n 2, 1) := by decide +kernel
theorem dX12_keepState_2 : decode cX12_keepState 2 = .ok (.iload_n 2, 1) := by decide +kernel
theorem dX12_keepState_3 : decode cX12_keepState 3 = .ok (.aload_n 0, 1) := by decide +kernel
theorem dX12_keepState_4 : decode cX12_keepState 4 = .ok (.getfield 177, 3) := by decide +kernel
theorem dX12_keepState_7 : decode cX12_keepState 7 = .ok (.if_icmp .ge 86, 3) := by decide +kernel
theorem dX12_keepState_10 : decode cX12_keepState 10 = .ok (.aload_n 0, 1) := by decide +kernel
theorem dX12_keepState_11 : decode cX12_keepState 11 = .ok (.getfield 107, 3) := by decide +kernel
theorem dX12_keepState_14 : decode cX12_keepState 14 = .ok (.bipush 30, 2) := by decide +kernel
theorem dX12_keepState_16 : decode cX12_keepState 16 = .ok (.iload_n 1, 1) := by decide +kernel
theorem dX12_keepState_17 : decode cX12_keepState 17 = .ok (.imul, 1) := by decide +kernel
theorem dX12_keepState_18 : decode cX12_keepState 18 = .ok (.iload_n 2, 1) := by decide +kernel
theorem dX12_keepState_19 : decode cX12_keepState 19 = .ok (.iadd, 1) := by decide +kernel
theorem dX12_keepState_20 : decode cX12_keepState 20 = .ok (.aload_n 0, 1) := by decide +kernel
theorem dX12_keepState_21 : decode cX12_keepState 21 = .ok (.getfield 50, 3) := by decide +kernel
theorem dX12_keepState_24 : decode cX12_keepState 24 = .ok (.iload_n 2, 1) := by decide +kernel
theorem dX12_keepState_25 : decode cX12_keepState 25 = .ok (.iaload, 1) := by decide +kernel
theorem dX12_keepState_26 : decode cX12_keepState 26 = .ok (.i2b, 1) := by decide +kernel
theorem dX12_keepState_27 : decode cX12_keepState 27 = .ok (.bastore, 1) := by decide +kernel
theorem dX12_keepState_28 : decode cX12_keepState 28 = .ok (.aload_n 0, 1) := by decide +kernel
theorem dX12_keepState_29 : decode cX12_keepState 29 = .ok (.getfield 111, 3) := by decide +kernel
theorem dX12_keepState_32 : decode cX12_keepState 32 = .ok (.bipush 30, 2) := by decide +kernel
theorem dX12_keepState_34 : decode cX12_keepState 34 = .ok (.iload_n 1, 1) := by decide +kernel
theorem dX12_keepState_35 : decode cX12_keepState 35 = .ok (.imul, 1) := by decide +kernel
theorem dX12_keepState_36 : decode cX12_keepState 36 = .ok (.iload_n 2, 1) := by decide +kernel
theorem dX12_keepState_37 : decode cX12_keepState 37 = .ok (.iadd, 1) := by decide +kernel
theorem dX12_keepState_38 : decode cX12_keepState 38 = .ok (.aload_n 0, 1) := by decide +kernel
theorem dX12_keepState_39 : decode cX12_keepState 39 = .ok (.getfield 53, 3) := by decide +kernel
theorem dX12_keepState_42 : decode cX12_keepState 42 = .ok (.iload_n 2, 1) := by decide +kernel
theorem dX12_keepState_43 : decode cX12_keepState 43 = .ok (.iaload, 1) := by decide +kernel
theorem dX12_keepState_44 : decode cX12_keepState 44 = .ok (.i2b, 1) := by decide +kernel
theorem dX12_keepState_45 : decode cX12_keepState 45 = .ok (.bastore, 1) := by decide +kernel
theorem dX12_keepState_46 : decode cX12_keepState 46 = .ok (.aload_n 0, 1) := by decide +kernel
theorem dX12_keepState_47 : decode cX12_keepState 47 = .ok (.getfield 114, 3) := by decide +kernel
theorem dX12_keepState_50 : decode cX12_keepState 50 = .ok (.bipush 30, 2) := by decide +kernel
theorem dX12_keepState_52 : decode cX12_keepState 52 = .ok (.iload_n 1, 1) := by decide +kernel
theorem dX12_keepState_53 : decode cX12_keepState 53 = .ok (.imul, 1) := by decide +kernel
theorem dX12_keepState_54 : decode cX12_keepState 54 = .ok (.iload_n 2, 1) := by decide +kernel
theorem dX12_keepState_55 : decode cX12_keepState 55 = .ok (.iadd, 1) := by decide +kernel
theorem dX12_keepState_56 : decode cX12_keepState 56 = .ok (.aload_n 0, 1) := by decide +kernel
theorem dX12_keepState_57 : decode cX12_keepState 57 = .ok (.getfield 56, 3) := by decide +kernel
theorem dX12_keepState_60 : decode cX12_keepState 60 = .ok (.iload_n 2, 1) := by decide +kernel
theorem dX12_keepState_61 : decode cX12_keepState 61 = .ok (.baload, 1) := by decide +kernel
theorem dX12_keepState_62 : decode cX12_keepState 62 = .ok (.ifCond .eq 7, 3) := by decide +kernel
theorem dX12_keepState_65 : decode cX12_keepState 65 = .ok (.iconst 1, 1) := by decide +kernel
theorem dX12_keepState_66 : decode cX12_keepState 66 = .ok (.goto 4, 3) := by decide +kernel
theorem dX12_keepState_69 : decode cX12_keepState 69 = .ok (.iconst 0, 1) := by decide +kernel
theorem dX12_keepState_70 : decode cX12_keepState 70 = .ok (.aload_n 0, 1) := by decide +kernel
theorem dX12_keepState_71 : decode cX12_keepState 71 = .ok (.getfield 59, 3) := by decide +kernel
theorem dX12_keepState_74 : decode cX12_keepState 74 = .ok (.iload_n 2, 1) := by decide +kernel
theorem dX12_keepState_75 : decode cX12_keepState 75 = .ok (.baload, 1) := by decide +kernel
theorem dX12_keepState_76 : decode cX12_keepState 76 = .ok (.ifCond .eq 7, 3) := by decide +kernel
theorem dX12_keepState_79 : decode cX12_keepState 79 = .ok (.iconst 2, 1) := by decide +kernel
theorem dX12_keepState_80 : decode cX12_keepState 80 = .ok (.goto 4, 3) := by decide +kernel
theorem dX12_keepState_83 : decode cX12_keepState 83 = .ok (.iconst 0, 1) := by decide +kernel
theorem dX12_keepState_84 : decode cX12_keepState 84 = .ok (.iadd, 1) := by decide +kernel
theorem dX12_keepState_85 : decode cX12_keepState 85 = .ok (.i2b, 1) := by decide +kernel
theorem dX12_keepState_86 : decode cX12_keepState 86 = .ok (.bastore, 1) := by decide +kernel
theorem dX12_keepState_87 : decode cX12_keepState 87 = .ok (.iinc 2 1, 3) := by decide +kernel
theorem dX12_keepState_90 : decode cX12_keepState 90 = .ok (.goto (-88), 3) := by decide +kernel
theorem dX12_keepState_93 : decode cX12_keepState 93 = .ok (.return_, 1) := by decide +kernel
theorem dX12_giveState_0 : decode cX12_giveState 0 = .ok (.iconst 0, 1) := by decide +kernel
theorem dX12_giveState_1 : decode cX12_giveState 1 = .ok (.istore_n 2, 1) := by decide +kernel
theorem dX12_giveState_2 : decode cX12_giveState 2 = .ok (.iload_n 2, 1) := by decide +kernel
theorem dX12_giveState_3 : decode cX12_giveState 3 = .ok (.aload_n 0, 1) := by decide +kernel
theorem dX12_giveState_4 : decode cX12_giveState 4 = .ok (.getfield 177, 3) := by decide +kernel
theorem dX12_giveState_7 : decode cX12_giveState 7 = .ok (.if_icmp .ge 99, 3) := by decide +kernel
theorem dX12_giveState_10 : decode cX12_giveState 10 = .ok (.aload_n 0, 1) := by decide +kernel
theorem dX12_giveState_11 : decode cX12_giveState 11 = .ok (.getfield 50, 3) := by decide +kernel
theorem dX12_giveState_14 : decode cX12_giveState 14 = .ok (.iload_n 2, 1) := by decide +kernel
theorem dX12_giveState_15 : decode cX12_giveState 15 = .ok (.aload_n 0, 1) := by decide +kernel
theorem dX12_giveState_16 : decode cX12_giveState 16 = .ok (.getfield 107, 3) := by decide +kernel
theorem dX12_giveState_19 : decode cX12_giveState 19 = .ok (.bipush 30, 2) := by decide +kernel
theorem dX12_giveState_21 : decode cX12_giveState 21 = .ok (.iload_n 1, 1) := by decide +kernel
theorem dX12_giveState_22 : decode cX12_giveState 22 = .ok (.imul, 1) := by decide +kernel
theorem dX12_giveState_23 : decode cX12_giveState 23 = .ok (.iload_n 2, 1) := by decide +kernel
theorem dX12_giveState_24 : decode cX12_giveState 24 = .ok (.iadd, 1) := by decide +kernel
theorem dX12_giveState_25 : decode cX12_giveState 25 = .ok (.baload, 1) := by decide +kernel
theorem dX12_giveState_26 : decode cX12_giveState 26 = .ok (.iastore, 1) := by decide +kernel
theorem dX12_giveState_27 : decode cX12_giveState 27 = .ok (.aload_n 0, 1) := by decide +kernel
theorem dX12_giveState_28 : decode cX12_giveState 28 = .ok (.getfield 53, 3) := by decide +kernel
theorem dX12_giveState_31 : decode cX12_giveState 31 = .ok (.iload_n 2, 1) := by decide +kernel
theorem dX12_giveState_32 : decode cX12_giveState 32 = .ok (.aload_n 0, 1) := by decide +kernel
theorem dX12_giveState_33 : decode cX12_giveState 33 = .ok (.getfield 111, 3) := by decide +kernel
theorem dX12_giveState_36 : decode cX12_giveState 36 = .ok (.bipush 30, 2) := by decide +kernel
theorem dX12_giveState_38 : decode cX12_giveState 38 = .ok (.iload_n 1, 1) := by decide +kernel
theorem dX12_giveState_39 : decode cX12_giveState 39 = .ok (.imul, 1) := by decide +kernel
theorem dX12_giveState_40 : decode cX12_giveState 40 = .ok (.iload_n 2, 1) := by decide +kernel
theorem dX12_giveState_41 : decode cX12_giveState 41 = .ok (.iadd, 1) := by decide +kernel
theorem dX12_giveState_42 : decode cX12_giveState 42 = .ok (.baload, 1) := by decide +kernel
theorem dX12_giveState_43 : decode cX12_giveState 43 = .ok (.iastore, 1) := by decide +kernel
theorem dX12_giveState_44 : decode cX12_giveState 44 = .ok (.aload_n 0, 1) := by decide +kernel
theorem dX12_giveState_45 : decode cX12_giveState 45 = .ok (.getfield 56, 3) := by decide +kernel
theorem dX12_giveState_48 : decode cX12_giveState 48 = .ok (.iload_n 2, 1) := by decide +kernel
theorem dX12_giveState_49 : decode cX12_giveState 49 = .ok (.aload_n 0, 1) := by decide +kernel
theorem dX12_giveState_50 : decode cX12_giveState 50 = .ok (.getfield 114, 3) := by decide +kernel
theorem dX12_giveState_53 : decode cX12_giveState 53 = .ok (.bipush 30, 2) := by decide +kernel
theorem dX12_giveState_55 : decode cX12_giveState 55 = .ok (.iload_n 1, 1) := by decide +kernel
theorem dX12_giveState_56 : decode cX12_giveState 56 = .ok (.imul, 1) := by decide +kernel
theorem dX12_giveState_57 : decode cX12_giveState 57 = .ok (.iload_n 2, 1) := by decide +kernel
theorem dX12_giveState_58 : decode cX12_giveState 58 = .ok (.iadd, 1) := by decide +kernel
theorem dX12_giveState_59 : decode cX12_giveState 59 = .ok (.baload, 1) := by decide +kernel
theorem dX12_giveState_60 : decode cX12_giveState 60 = .ok (.iconst 1, 1) := by decide +kernel
theorem dX12_giveState_61 : decode cX12_giveState 61 = .ok (.iand, 1) := by decide +kernel
theorem dX12_giveState_62 : decode cX12_giveState 62 = .ok (.iconst 1, 1) := by decide +kernel
theorem dX12_giveState_63 : decode cX12_giveState 63 = .ok (.if_icmp .ne 7, 3) := by decide +kernel
theorem dX12_giveState_66 : decode cX12_giveState 66 = .ok (.iconst 1, 1) := by decide +kernel
theorem dX12_giveState_67 : decode cX12_giveState 67 = .ok (.goto 4, 3) := by decide +kernel
theorem dX12_giveState_70 : decode cX12_giveState 70 = .ok (.iconst 0, 1) := by decide +kernel
theorem dX12_giveState_71 : decode cX12_giveState 71 = .ok (.bastore, 1) := by decide +kernel
theorem dX12_giveState_72 : decode cX12_giveState 72 = .ok (.aload_n 0, 1) := by decide +kernel
theorem dX12_giveState_73 : decode cX12_giveState 73 = .ok (.getfield 59, 3) := by decide +kernel
theorem dX12_giveState_76 : decode cX12_giveState 76 = .ok (.iload_n 2, 1) := by decide +kernel
theorem dX12_giveState_77 : decode cX12_giveState 77 = .ok (.aload_n 0, 1) := by decide +kernel
theorem dX12_giveState_78 : decode cX12_giveState 78 = .ok (.getfield 114, 3) := by decide +kernel
theorem dX12_giveState_81 : decode cX12_giveState 81 = .ok (.bipush 30, 2) := by decide +kernel
theorem dX12_giveState_83 : decode cX12_giveState 83 = .ok (.iload_n 1, 1) := by decide +kernel
theorem dX12_giveState_84 : decode cX12_giveState 84 = .ok (.imul, 1) := by decide +kernel
theorem dX12_giveState_85 : decode cX12_giveState 85 = .ok (.iload_n 2, 1) := by decide +kernel
theorem dX12_giveState_86 : decode cX12_giveState 86 = .ok (.iadd, 1) := by decide +kernel
theorem dX12_giveState_87 : decode cX12_giveState 87 = .ok (.baload, 1) := by decide +kernel
theorem dX12_giveState_88 : decode cX12_giveState 88 = .ok (.iconst 2, 1) := by decide +kernel
theorem dX12_giveState_89 : decode cX12_giveState 89 = .ok (.iand, 1) := by decide +kernel
theorem dX12_giveState_90 : decode cX12_giveState 90 = .ok (.iconst 2, 1) := by decide +kernel
theorem dX12_giveState_91 : decode cX12_giveState 91 = .ok (.if_icmp .ne 7, 3) := by decide +kernel
theorem dX12_giveState_94 : decode cX12_giveState 94 = .ok (.iconst 1, 1) := by decide +kernel
theorem dX12_giveState_95 : decode cX12_giveState 95 = .ok (.goto 4, 3) := by decide +kernel
theorem dX12_giveState_98 : decode cX12_giveState 98 = .ok (.iconst 0, 1) := by decide +kernel
theorem dX12_giveState_99 : decode cX12_giveState 99 = .ok (.bastore, 1) := by decide +kernel
theorem dX12_giveState_100 : decode cX12_giveState 100 = .ok (.iinc 2 1, 3) := by decide +kernel
theorem dX12_giveState_103 : decode cX12_giveState 103 = .ok (.goto (-101), 3) := by decide +kernel
theorem dX12_giveState_106 : decode cX12_giveState 106 = .ok (.return_, 1) := by decide +kernel
theorem dX12_isState_0 : decode cX12_isState 0 = .ok (.iconst 0, 1) := by decide +kernel
theorem dX12_isState_1 : decode cX12_isState 1 = .ok (.istore_n 2, 1) := by decide +kernel
theorem dX12_isState_2 : decode cX12_isState 2 = .ok (.iload_n 2, 1) := by decide +kernel
theorem dX12_isState_3 : decode cX12_isState 3 = .ok (.aload_n 0, 1) := by decide +kernel
theorem dX12_isState_4 : decode cX12_isState 4 = .ok (.getfield 177, 3) := by decide +kernel
theorem dX12_isState_7 : decode cX12_isState 7 = .ok (.if_icmp .ge 94, 3) := by decide +kernel
theorem dX12_isState_10 : decode cX12_isState 10 = .ok (.aload_n 0, 1) := by decide +kernel
theorem dX12_isState_11 : decode cX12_isState 11 = .ok (.getfield 107, 3) := by decide +kernel
theorem dX12_isState_14 : decode cX12_isState 14 = .ok (.bipush 30, 2) := by decide +kernel
theorem dX12_isState_16 : decode cX12_isState 16 = .ok (.iload_n 1, 1) := by decide +kernel
theorem dX12_isState_17 : decode cX12_isState 17 = .ok (.imul, 1) := by decide +kernel
theorem dX12_isState_18 : decode cX12_isState 18 = .ok (.iload_n 2, 1) := by decide +kernel
theorem dX12_isState_19 : decode cX12_isState 19 = .ok (.iadd, 1) := by decide +kernel
theorem dX12_isState_20 : decode cX12_isState 20 = .ok (.baload, 1) := by decide +kernel
theorem dX12_isState_21 : decode cX12_isState 21 = .ok (.aload_n 0, 1) := by decide +kernel
theorem dX12_isState_22 : decode cX12_isState 22 = .ok (.getfield 50, 3) := by decide +kernel
theorem dX12_isState_25 : decode cX12_isState 25 = .ok (.iload_n 2, 1) := by decide +kernel
theorem dX12_isState_26 : decode cX12_isState 26 = .ok (.iaload, 1) := by decide +kernel
theorem dX12_isState_27 : decode cX12_isState 27 = .ok (.if_icmp .ne 66, 3) := by decide +kernel
theorem dX12_isState_30 : decode cX12_isState 30 = .ok (.aload_n 0, 1) := by decide +kernel
theorem dX12_isState_31 : decode cX12_isState 31 = .ok (.getfield 111, 3) := by decide +kernel
theorem dX12_isState_34 : decode cX12_isState 34 = .ok (.bipush 30, 2) := by decide +kernel
theorem dX12_isState_36 : decode cX12_isState 36 = .ok (.iload_n 1, 1) := by decide +kernel
theorem dX12_isState_37 : decode cX12_isState 37 = .ok (.imul, 1) := by decide +kernel
theorem dX12_isState_38 : decode cX12_isState 38 = .ok (.iload_n 2, 1) := by decide +kernel
theorem dX12_isState_39 : decode cX12_isState 39 = .ok (.iadd, 1) := by decide +kernel
theorem dX12_isState_40 : decode cX12_isState 40 = .ok (.baload, 1) := by decide +kernel
theorem dX12_isState_41 : decode cX12_isState 41 = .ok (.aload_n 0, 1) := by decide +kernel
theorem dX12_isState_42 : decode cX12_isState 42 = .ok (.getfield 53, 3) := by decide +kernel
theorem dX12_isState_45 : decode cX12_isState 45 = .ok (.iload_n 2, 1) := by decide +kernel
theorem dX12_isState_46 : decode cX12_isState 46 = .ok (.iaload, 1) := by decide +kernel
theorem dX12_isState_47 : decode cX12_isState 47 = .ok (.if_icmp .ne 46, 3) := by decide +kernel
theorem dX12_isState_50 : decode cX12_isState 50 = .ok (.aload_n 0, 1) := by decide +kernel
theorem dX12_isState_51 : decode cX12_isState 51 = .ok (.getfield 114, 3) := by decide +kernel
theorem dX12_isState_54 : decode cX12_isState 54 = .ok (.bipush 30, 2) := by decide +kernel
theorem dX12_isState_56 : decode cX12_isState 56 = .ok (.iload_n 1, 1) := by decide +kernel
theorem dX12_isState_57 : decode cX12_isState 57 = .ok (.imul, 1) := by decide +kernel
