theorem dX0_outcomeOf_14 : decode cX0_outcomeOf 14 = .ok (.istore 4, 2) := o_54 (u1_14 hc_X0_outcomeOf_0 rfl) (u1_15 hc_X0_outcomeOf_0 rfl) rfl
theorem hc_X0_outcomeOf_16 : ((bL cX0_outcomeOf).drop 16).take 18 = [27, 170, 0, 0, 0, 0, 1, 1, 0, 0, 0, 0, 0, 0, 0, 11, 0, 0] := by decide +kernel
theorem dX0_outcomeOf_16 : decode cX0_outcomeOf 16 = .ok (.iload_n 1, 1) := o_27 (u1_0 hc_X0_outcomeOf_16 rfl) rfl
theorem dX0_outcomeOf_17 : decode cX0_outcomeOf 17 = .ok (.tableswitch 257 0 11 #[63, 96, 109, 139, 149, 159, 159, 178, 178, 198, 211, 237], 63) := by decide +kernel
theorem hc_X0_outcomeOf_80 : ((bL cX0_outcomeOf).drop 80).take 18 = [21, 4, 3, 42, 180, 0, 19, 180, 0, 95, 42, 180, 0, 33, 42, 180, 0, 38] := by decide +kernel
theorem dX0_outcomeOf_80 : decode cX0_outcomeOf 80 = .ok (.iload 4, 2) := o_21 (u1_0 hc_X0_outcomeOf_80 rfl) (u1_1 hc_X0_outcomeOf_80 rfl) rfl
theorem dX0_outcomeOf_82 : decode cX0_outcomeOf 82 = .ok (.iconst 0, 1) := o_3 (u1_2 hc_X0_outcomeOf_80 rfl) rfl
theorem dX0_outcomeOf_83 : decode cX0_outcomeOf 83 = .ok (.aload_n 0, 1) := o_42 (u1_3 hc_X0_outcomeOf_80 rfl) rfl
theorem dX0_outcomeOf_84 : decode cX0_outcomeOf 84 = .ok (.getfield 19, 3) := o_180 (u1_4 hc_X0_outcomeOf_80 rfl) (u2_d (u1_5 hc_X0_outcomeOf_80 rfl) (u1_6 hc_X0_outcomeOf_80 rfl) rfl) rfl
theorem dX0_outcomeOf_87 : decode cX0_outcomeOf 87 = .ok (.getfield 95, 3) := o_180 (u1_7 hc_X0_outcomeOf_80 rfl) (u2_d (u1_8 hc_X0_outcomeOf_80 rfl) (u1_9 hc_X0_outcomeOf_80 rfl) rfl) rfl
theorem dX0_outcomeOf_90 : decode cX0_outcomeOf 90 = .ok (.aload_n 0, 1) := o_42 (u1_10 hc_X0_outcomeOf_80 rfl) rfl
theorem dX0_outcomeOf_91 : decode cX0_outcomeOf 91 = .ok (.getfield 33, 3) := o_180 (u1_11 hc_X0_outcomeOf_80 rfl) (u2_d (u1_12 hc_X0_outcomeOf_80 rfl) (u1_13 hc_X0_outcomeOf_80 rfl) rfl) rfl
theorem dX0_outcomeOf_94 : decode cX0_outcomeOf 94 = .ok (.aload_n 0, 1) := o_42 (u1_14 hc_X0_outcomeOf_80 rfl) rfl
theorem dX0_outcomeOf_95 : decode cX0_outcomeOf 95 = .ok (.getfield 38, 3) := o_180 (u1_15 hc_X0_outcomeOf_80 rfl) (u2_d (u1_16 hc_X0_outcomeOf_80 rfl) (u1_17 hc_X0_outcomeOf_80 rfl) rfl) rfl
theorem hc_X0_outcomeOf_96 : ((bL cX0_outcomeOf).drop 96).take 18 = [0, 38, 182, 0, 83, 16, 10, 104, 28, 96, 46, 184, 0, 155, 167, 0, 166, 21] := by decide +kernel
theorem dX0_outcomeOf_98 : decode cX0_outcomeOf 98 = .ok (.invokevirtual 83, 3) := o_182 (u1_2 hc_X0_outcomeOf_96 rfl) (u2_d (u1_3 hc_X0_outcomeOf_96 rfl) (u1_4 hc_X0_outcomeOf_96 rfl) rfl) rfl
theorem dX0_outcomeOf_101 : decode cX0_outcomeOf 101 = .ok (.bipush 10, 2) := o_16 (u1_5 hc_X0_outcomeOf_96 rfl) (s1_d (u1_6 hc_X0_outcomeOf_96 rfl) rfl) rfl
theorem dX0_outcomeOf_103 : decode cX0_outcomeOf 103 = .ok (.imul, 1) := o_104 (u1_7 hc_X0_outcomeOf_96 rfl) rfl
theorem dX0_outcomeOf_104 : decode cX0_outcomeOf 104 = .ok (.iload_n 2, 1) := o_28 (u1_8 hc_X0_outcomeOf_96 rfl) rfl
theorem dX0_outcomeOf_105 : decode cX0_outcomeOf 105 = .ok (.iadd, 1) := o_96 (u1_9 hc_X0_outcomeOf_96 rfl) rfl
theorem dX0_outcomeOf_106 : decode cX0_outcomeOf 106 = .ok (.iaload, 1) := o_46 (u1_10 hc_X0_outcomeOf_96 rfl) rfl
theorem dX0_outcomeOf_107 : decode cX0_outcomeOf 107 = .ok (.invokestatic 155, 3) := o_184 (u1_11 hc_X0_outcomeOf_96 rfl) (u2_d (u1_12 hc_X0_outcomeOf_96 rfl) (u1_13 hc_X0_outcomeOf_96 rfl) rfl) rfl
theorem dX0_outcomeOf_110 : decode cX0_outcomeOf 110 = .ok (.goto 166, 3) := o_167 (u1_14 hc_X0_outcomeOf_96 rfl) (s2_d (u2_d (u1_15 hc_X0_outcomeOf_96 rfl) (u1_16 hc_X0_outcomeOf_96 rfl) rfl) rfl) rfl
theorem hc_X0_outcomeOf_112 : ((bL cX0_outcomeOf).drop 112).take 18 = [166, 21, 4, 5, 42, 180, 0, 38, 184, 0, 155, 167, 0, 153, 21, 4, 42, 180] := by decide +kernel
theorem dX0_outcomeOf_113 : decode cX0_outcomeOf 113 = .ok (.iload 4, 2) := o_21 (u1_1 hc_X0_outcomeOf_112 rfl) (u1_2 hc_X0_outcomeOf_112 rfl) rfl
theorem dX0_outcomeOf_115 : decode cX0_outcomeOf 115 = .ok (.iconst 2, 1) := o_5 (u1_3 hc_X0_outcomeOf_112 rfl) rfl
theorem dX0_outcomeOf_116 : decode cX0_outcomeOf 116 = .ok (.aload_n 0, 1) := o_42 (u1_4 hc_X0_outcomeOf_112 rfl) rfl
theorem dX0_outcomeOf_117 : decode cX0_outcomeOf 117 = .ok (.getfield 38, 3) := o_180 (u1_5 hc_X0_outcomeOf_112 rfl) (u2_d (u1_6 hc_X0_outcomeOf_112 rfl) (u1_7 hc_X0_outcomeOf_112 rfl) rfl) rfl
theorem dX0_outcomeOf_120 : decode cX0_outcomeOf 120 = .ok (.invokestatic 155, 3) := o_184 (u1_8 hc_X0_outcomeOf_112 rfl) (u2_d (u1_9 hc_X0_outcomeOf_112 rfl) (u1_10 hc_X0_outcomeOf_112 rfl) rfl) rfl
theorem dX0_outcomeOf_123 : decode cX0_outcomeOf 123 = .ok (.goto 153, 3) := o_167 (u1_11 hc_X0_outcomeOf_112 rfl) (s2_d (u2_d (u1_12 hc_X0_outcomeOf_112 rfl) (u1_13 hc_X0_outcomeOf_112 rfl) rfl) rfl) rfl
theorem dX0_outcomeOf_126 : decode cX0_outcomeOf 126 = .ok (.iload 4, 2) := o_21 (u1_14 hc_X0_outcomeOf_112 rfl) (u1_15 hc_X0_outcomeOf_112 rfl) rfl
theorem hc_X0_outcomeOf_128 : ((bL cX0_outcomeOf).drop 128).take 18 = [42, 180, 0, 33, 42, 180, 0, 38, 182, 0, 80, 42, 180, 0, 33, 42, 180, 0] := by decide +kernel
theorem dX0_outcomeOf_128 : decode cX0_outcomeOf 128 = .ok (.aload_n 0, 1) := o_42 (u1_0 hc_X0_outcomeOf_128 rfl) rfl
theorem dX0_outcomeOf_129 : decode cX0_outcomeOf 129 = .ok (.getfield 33, 3) := o_180 (u1_1 hc_X0_outcomeOf_128 rfl) (u2_d (u1_2 hc_X0_outcomeOf_128 rfl) (u1_3 hc_X0_outcomeOf_128 rfl) rfl) rfl
theorem dX0_outcomeOf_132 : decode cX0_outcomeOf 132 = .ok (.aload_n 0, 1) := o_42 (u1_4 hc_X0_outcomeOf_128 rfl) rfl
theorem dX0_outcomeOf_133 : decode cX0_outcomeOf 133 = .ok (.getfield 38, 3) := o_180 (u1_5 hc_X0_outcomeOf_128 rfl) (u2_d (u1_6 hc_X0_outcomeOf_128 rfl) (u1_7 hc_X0_outcomeOf_128 rfl) rfl) rfl
theorem dX0_outcomeOf_136 : decode cX0_outcomeOf 136 = .ok (.invokevirtual 80, 3) := o_182 (u1_8 hc_X0_outcomeOf_128 rfl) (u2_d (u1_9 hc_X0_outcomeOf_128 rfl) (u1_10 hc_X0_outcomeOf_128 rfl) rfl) rfl
theorem dX0_outcomeOf_139 : decode cX0_outcomeOf 139 = .ok (.aload_n 0, 1) := o_42 (u1_11 hc_X0_outcomeOf_128 rfl) rfl
theorem dX0_outcomeOf_140 : decode cX0_outcomeOf 140 = .ok (.getfield 33, 3) := o_180 (u1_12 hc_X0_outcomeOf_128 rfl) (u2_d (u1_13 hc_X0_outcomeOf_128 rfl) (u1_14 hc_X0_outcomeOf_128 rfl) rfl) rfl
theorem dX0_outcomeOf_143 : decode cX0_outcomeOf 143 = .ok (.aload_n 0, 1) := o_42 (u1_15 hc_X0_outcomeOf_128 rfl) rfl
theorem hc_X0_outcomeOf_144 : ((bL cX0_outcomeOf).drop 144).take 18 = [180, 0, 38, 182, 0, 83, 184, 0, 155, 167, 0, 123, 21, 4, 3, 29, 184, 0] := by decide +kernel
theorem dX0_outcomeOf_144 : decode cX0_outcomeOf 144 = .ok (.getfield 38, 3) := o_180 (u1_0 hc_X0_outcomeOf_144 rfl) (u2_d (u1_1 hc_X0_outcomeOf_144 rfl) (u1_2 hc_X0_outcomeOf_144 rfl) rfl) rfl
theorem dX0_outcomeOf_147 : decode cX0_outcomeOf 147 = .ok (.invokevirtual 83, 3) := o_182 (u1_3 hc_X0_outcomeOf_144 rfl) (u2_d (u1_4 hc_X0_outcomeOf_144 rfl) (u1_5 hc_X0_outcomeOf_144 rfl) rfl) rfl
theorem dX0_outcomeOf_150 : decode cX0_outcomeOf 150 = .ok (.invokestatic 155, 3) := o_184 (u1_6 hc_X0_outcomeOf_144 rfl) (u2_d (u1_7 hc_X0_outcomeOf_144 rfl) (u1_8 hc_X0_outcomeOf_144 rfl) rfl) rfl
theorem dX0_outcomeOf_153 : decode cX0_outcomeOf 153 = .ok (.goto 123, 3) := o_167 (u1_9 hc_X0_outcomeOf_144 rfl) (s2_d (u2_d (u1_10 hc_X0_outcomeOf_144 rfl) (u1_11 hc_X0_outcomeOf_144 rfl) rfl) rfl) rfl
theorem dX0_outcomeOf_156 : decode cX0_outcomeOf 156 = .ok (.iload 4, 2) := o_21 (u1_12 hc_X0_outcomeOf_144 rfl) (u1_13 hc_X0_outcomeOf_144 rfl) rfl
theorem dX0_outcomeOf_158 : decode cX0_outcomeOf 158 = .ok (.iconst 0, 1) := o_3 (u1_14 hc_X0_outcomeOf_144 rfl) rfl
theorem dX0_outcomeOf_159 : decode cX0_outcomeOf 159 = .ok (.iload_n 3, 1) := o_29 (u1_15 hc_X0_outcomeOf_144 rfl) rfl
theorem hc_X0_outcomeOf_160 : ((bL cX0_outcomeOf).drop 160).take 18 = [184, 0, 155, 167, 0, 113, 21, 4, 4, 29, 184, 0, 155, 167, 0, 103, 21, 4] := by decide +kernel
theorem dX0_outcomeOf_160 : decode cX0_outcomeOf 160 = .ok (.invokestatic 155, 3) := o_184 (u1_0 hc_X0_outcomeOf_160 rfl) (u2_d (u1_1 hc_X0_outcomeOf_160 rfl) (u1_2 hc_X0_outcomeOf_160 rfl) rfl) rfl
theorem dX0_outcomeOf_163 : decode cX0_outcomeOf 163 = .ok (.goto 113, 3) := o_167 (u1_3 hc_X0_outcomeOf_160 rfl) (s2_d (u2_d (u1_4 hc_X0_outcomeOf_160 rfl) (u1_5 hc_X0_outcomeOf_160 rfl) rfl) rfl) rfl
theorem dX0_outcomeOf_166 : decode cX0_outcomeOf 166 = .ok (.iload 4, 2) := o_21 (u1_6 hc_X0_outcomeOf_160 rfl) (u1_7 hc_X0_outcomeOf_160 rfl) rfl
theorem dX0_outcomeOf_168 : decode cX0_outcomeOf 168 = .ok (.iconst 1, 1) := o_4 (u1_8 hc_X0_outcomeOf_160 rfl) rfl
theorem dX0_outcomeOf_169 : decode cX0_outcomeOf 169 = .ok (.iload_n 3, 1) := o_29 (u1_9 hc_X0_outcomeOf_160 rfl) rfl
theorem dX0_outcomeOf_170 : decode cX0_outcomeOf 170 = .ok (.invokestatic 155, 3) := o_184 (u1_10 hc_X0_outcomeOf_160 rfl) (u2_d (u1_11 hc_X0_outcomeOf_160 rfl) (u1_12 hc_X0_outcomeOf_160 rfl) rfl) rfl
theorem dX0_outcomeOf_173 : decode cX0_outcomeOf 173 = .ok (.goto 103, 3) := o_167 (u1_13 hc_X0_outcomeOf_160 rfl) (s2_d (u2_d (u1_14 hc_X0_outcomeOf_160 rfl) (u1_15 hc_X0_outcomeOf_160 rfl) rfl) rfl) rfl
theorem hc_X0_outcomeOf_176 : ((bL cX0_outcomeOf).drop 176).take 18 = [21, 4, 3, 27, 8, 160, 0, 7, 4, 167, 0, 4, 3, 184, 0, 158, 167, 0] := by decide +kernel
theorem dX0_outcomeOf_176 : decode cX0_outcomeOf 176 = .ok (.iload 4, 2) := o_21 (u1_0 hc_X0_outcomeOf_176 rfl) (u1_1 hc_X0_outcomeOf_176 rfl) rfl
theorem dX0_outcomeOf_178 : decode cX0_outcomeOf 178 = .ok (.iconst 0, 1) := o_3 (u1_2 hc_X0_outcomeOf_176 rfl) rfl
theorem dX0_outcomeOf_179 : decode cX0_outcomeOf 179 = .ok (.iload_n 1, 1) := o_27 (u1_3 hc_X0_outcomeOf_176 rfl) rfl
theorem dX0_outcomeOf_180 : decode cX0_outcomeOf 180 = .ok (.iconst 5, 1) := o_8 (u1_4 hc_X0_outcomeOf_176 rfl) rfl
theorem dX0_outcomeOf_181 : decode cX0_outcomeOf 181 = .ok (.if_icmp .ne 7, 3) := o_160 (u1_5 hc_X0_outcomeOf_176 rfl) (s2_d (u2_d (u1_6 hc_X0_outcomeOf_176 rfl) (u1_7 hc_X0_outcomeOf_176 rfl) rfl) rfl) rfl
theorem dX0_outcomeOf_184 : decode cX0_outcomeOf 184 = .ok (.iconst 1, 1) := o_4 (u1_8 hc_X0_outcomeOf_176 rfl) rfl
theorem dX0_outcomeOf_185 : decode cX0_outcomeOf 185 = .ok (.goto 4, 3) := o_167 (u1_9 hc_X0_outcomeOf_176 rfl) (s2_d (u2_d (u1_10 hc_X0_outcomeOf_176 rfl) (u1_11 hc_X0_outcomeOf_176 rfl) rfl) rfl) rfl
theorem dX0_outcomeOf_188 : decode cX0_outcomeOf 188 = .ok (.iconst 0, 1) := o_3 (u1_12 hc_X0_outcomeOf_176 rfl) rfl
theorem dX0_outcomeOf_189 : decode cX0_outcomeOf 189 = .ok (.invokestatic 158, 3) := o_184 (u1_13 hc_X0_outcomeOf_176 rfl) (u2_d (u1_14 hc_X0_outcomeOf_176 rfl) (u1_15 hc_X0_outcomeOf_176 rfl) rfl) rfl
theorem hc_X0_outcomeOf_192 : ((bL cX0_outcomeOf).drop 192).take 18 = [167, 0, 84, 21, 4, 4, 27, 16, 8, 160, 0, 7, 4, 167, 0, 4, 3, 184] := by decide +kernel
theorem dX0_outcomeOf_192 : decode cX0_outcomeOf 192 = .ok (.goto 84, 3) := o_167 (u1_0 hc_X0_outcomeOf_192 rfl) (s2_d (u2_d (u1_1 hc_X0_outcomeOf_192 rfl) (u1_2 hc_X0_outcomeOf_192 rfl) rfl) rfl) rfl
theorem dX0_outcomeOf_195 : decode cX0_outcomeOf 195 = .ok (.iload 4, 2) := o_21 (u1_3 hc_X0_outcomeOf_192 rfl) (u1_4 hc_X0_outcomeOf_192 rfl) rfl
theorem dX0_outcomeOf_197 : decode cX0_outcomeOf 197 = .ok (.iconst 1, 1) := o_4 (u1_5 hc_X0_outcomeOf_192 rfl) rfl
theorem dX0_outcomeOf_198 : decode cX0_outcomeOf 198 = .ok (.iload_n 1, 1) := o_27 (u1_6 hc_X0_outcomeOf_192 rfl) rfl
theorem dX0_outcomeOf_199 : decode cX0_outcomeOf 199 = .ok (.bipush 8, 2) := o_16 (u1_7 hc_X0_outcomeOf_192 rfl) (s1_d (u1_8 hc_X0_outcomeOf_192 rfl) rfl) rfl
theorem dX0_outcomeOf_201 : decode cX0_outcomeOf 201 = .ok (.if_icmp .ne 7, 3) := o_160 (u1_9 hc_X0_outcomeOf_192 rfl) (s2_d (u2_d (u1_10 hc_X0_outcomeOf_192 rfl) (u1_11 hc_X0_outcomeOf_192 rfl) rfl) rfl) rfl
theorem dX0_outcomeOf_204 : decode cX0_outcomeOf 204 = .ok (.iconst 1, 1) := o_4 (u1_12 hc_X0_outcomeOf_192 rfl) rfl
theorem dX0_outcomeOf_205 : decode cX0_outcomeOf 205 = .ok (.goto 4, 3) := o_167 (u1_13 hc_X0_outcomeOf_192 rfl) (s2_d (u2_d (u1_14 hc_X0_outcomeOf_192 rfl) (u1_15 hc_X0_outcomeOf_192 rfl) rfl) rfl) rfl
theorem hc_X0_outcomeOf_208 : ((bL cX0_outcomeOf).drop 208).take 18 = [3, 184, 0, 158, 167, 0, 64, 21, 4, 6, 42, 180, 0, 38, 184, 0, 155, 167] := by decide +kernel
theorem dX0_outcomeOf_208 : decode cX0_outcomeOf 208 = .ok (.iconst 0, 1) := o_3 (u1_0 hc_X0_outcomeOf_208 rfl) rfl
theorem dX0_outcomeOf_209 : decode cX0_outcomeOf 209 = .ok (.invokestatic 158, 3) := o_184 (u1_1 hc_X0_outcomeOf_208 rfl) (u2_d (u1_2 hc_X0_outcomeOf_208 rfl) (u1_3 hc_X0_outcomeOf_208 rfl) rfl) rfl
theorem dX0_outcomeOf_212 : decode cX0_outcomeOf 212 = .ok (.goto 64, 3) := o_167 (u1_4 hc_X0_outcomeOf_208 rfl) (s2_d (u2_d (u1_5 hc_X0_outcomeOf_208 rfl) (u1_6 hc_X0_outcomeOf_208 rfl) rfl) rfl) rfl
theorem dX0_outcomeOf_215 : decode cX0_outcomeOf 215 = .ok (.iload 4, 2) := o_21 (u1_7 hc_X0_outcomeOf_208 rfl) (u1_8 hc_X0_outcomeOf_208 rfl) rfl
theorem dX0_outcomeOf_217 : decode cX0_outcomeOf 217 = .ok (.iconst 3, 1) := o_6 (u1_9 hc_X0_outcomeOf_208 rfl) rfl
theorem dX0_outcomeOf_218 : decode cX0_outcomeOf 218 = .ok (.aload_n 0, 1) := o_42 (u1_10 hc_X0_outcomeOf_208 rfl) rfl
theorem dX0_outcomeOf_219 : decode cX0_outcomeOf 219 = .ok (.getfield 38, 3) := o_180 (u1_11 hc_X0_outcomeOf_208 rfl) (u2_d (u1_12 hc_X0_outcomeOf_208 rfl) (u1_13 hc_X0_outcomeOf_208 rfl) rfl) rfl
theorem dX0_outcomeOf_222 : decode cX0_outcomeOf 222 = .ok (.invokestatic 155, 3) := o_184 (u1_14 hc_X0_outcomeOf_208 rfl) (u2_d (u1_15 hc_X0_outcomeOf_208 rfl) (u1_16 hc_X0_outcomeOf_208 rfl) rfl) rfl
theorem hc_X0_outcomeOf_224 : ((bL cX0_outcomeOf).drop 224).take 18 = [155, 167, 0, 51, 21, 4, 42, 180, 0, 9, 28, 182, 0, 86, 6, 160, 0, 7] := by decide +kernel
theorem dX0_outcomeOf_225 : decode cX0_outcomeOf 225 = .ok (.goto 51, 3) := o_167 (u1_1 hc_X0_outcomeOf_224 rfl) (s2_d (u2_d (u1_2 hc_X0_outcomeOf_224 rfl) (u1_3 hc_X0_outcomeOf_224 rfl) rfl) rfl) rfl
theorem dX0_outcomeOf_228 : decode cX0_outcomeOf 228 = .ok (.iload 4, 2) := o_21 (u1_4 hc_X0_outcomeOf_224 rfl) (u1_5 hc_X0_outcomeOf_224 rfl) rfl
theorem dX0_outcomeOf_230 : decode cX0_outcomeOf 230 = .ok (.aload_n 0, 1) := o_42 (u1_6 hc_X0_outcomeOf_224 rfl) rfl
theorem dX0_outcomeOf_231 : decode cX0_outcomeOf 231 = .ok (.getfield 9, 3) := o_180 (u1_7 hc_X0_outcomeOf_224 rfl) (u2_d (u1_8 hc_X0_outcomeOf_224 rfl) (u1_9 hc_X0_outcomeOf_224 rfl) rfl) rfl
theorem dX0_outcomeOf_234 : decode cX0_outcomeOf 234 = .ok (.iload_n 2, 1) := o_28 (u1_10 hc_X0_outcomeOf_224 rfl) rfl
theorem dX0_outcomeOf_235 : decode cX0_outcomeOf 235 = .ok (.invokevirtual 86, 3) := o_182 (u1_11 hc_X0_outcomeOf_224 rfl) (u2_d (u1_12 hc_X0_outcomeOf_224 rfl) (u1_13 hc_X0_outcomeOf_224 rfl) rfl) rfl
theorem dX0_outcomeOf_238 : decode cX0_outcomeOf 238 = .ok (.iconst 3, 1) := o_6 (u1_14 hc_X0_outcomeOf_224 rfl) rfl
theorem dX0_outcomeOf_239 : decode cX0_outcomeOf 239 = .ok (.if_icmp .ne 7, 3) := o_160 (u1_15 hc_X0_outcomeOf_224 rfl) (s2_d (u2_d (u1_16 hc_X0_outcomeOf_224 rfl) (u1_17 hc_X0_outcomeOf_224 rfl) rfl) rfl) rfl
theorem hc_X0_outcomeOf_240 : ((bL cX0_outcomeOf).drop 240).take 18 = [0, 7, 3, 167, 0, 4, 4, 28, 184, 0, 155, 167, 0, 25, 42, 21, 4, 42] := by decide +kernel
theorem dX0_outcomeOf_242 : decode cX0_outcomeOf 242 = .ok (.iconst 0, 1) := o_3 (u1_2 hc_X0_outcomeOf_240 rfl) rfl
theorem dX0_outcomeOf_243 : decode cX0_outcomeOf 243 = .ok (.goto 4, 3) := o_167 (u1_3 hc_X0_outcomeOf_240 rfl) (s2_d (u2_d (u1_4 hc_X0_outcomeOf_240 rfl) (u1_5 hc_X0_outcomeOf_240 rfl) rfl) rfl) rfl
theorem dX0_outcomeOf_246 : decode cX0_outcomeOf 246 = .ok (.iconst 1, 1) := o_4 (u1_6 hc_X0_outcomeOf_240 rfl) rfl
theorem dX0_outcomeOf_247 : decode cX0_outcomeOf 247 = .ok (.iload_n 2, 1) := o_28 (u1_7 hc_X0_outcomeOf_240 rfl) rfl
theorem dX0_outcomeOf_248 : decode cX0_outcomeOf 248 = .ok (.invokestatic 155, 3) := o_184 (u1_8 hc_X0_outcomeOf_240 rfl) (u2_d (u1_9 hc_X0_outcomeOf_240 rfl) (u1_10 hc_X0_outcomeOf_240 rfl) rfl) rfl
theorem dX0_outcomeOf_251 : decode cX0_outcomeOf 251 = .ok (.goto 25, 3) := o_167 (u1_11 hc_X0_outcomeOf_240 rfl) (s2_d (u2_d (u1_12 hc_X0_outcomeOf_240 rfl) (u1_13 hc_X0_outcomeOf_240 rfl) rfl) rfl) rfl
theorem dX0_outcomeOf_254 : decode cX0_outcomeOf 254 = .ok (.aload_n 0, 1) := o_42 (u1_14 hc_X0_outcomeOf_240 rfl) rfl
theorem dX0_outcomeOf_255 : decode cX0_outcomeOf 255 = .ok (.iload 4, 2) := o_21 (u1_15 hc_X0_outcomeOf_240 rfl) (u1_16 hc_X0_outcomeOf_240 rfl) rfl
theorem hc_X0_outcomeOf_256 : ((bL cX0_outcomeOf).drop 256).take 18 = [4, 42, 180, 0, 33, 42, 180, 0, 38, 182, 0, 83, 182, 0, 162, 167, 0, 5] := by decide +kernel
theorem dX0_outcomeOf_257 : decode cX0_outcomeOf 257 = .ok (.aload_n 0, 1) := o_42 (u1_1 hc_X0_outcomeOf_256 rfl) rfl
theorem dX0_outcomeOf_258 : decode cX0_outcomeOf 258 = .ok (.getfield 33, 3) := o_180 (u1_2 hc_X0_outcomeOf_256 rfl) (u2_d (u1_3 hc_X0_outcomeOf_256 rfl) (u1_4 hc_X0_outcomeOf_256 rfl) rfl) rfl
theorem dX0_outcomeOf_261 : decode cX0_outcomeOf 261 = .ok (.aload_n 0, 1) := o_42 (u1_5 hc_X0_outcomeOf_256 rfl) rfl
theorem dX0_outcomeOf_262 : decode cX0_outcomeOf 262 = .ok (.getfield 38, 3) := o_180 (u1_6 hc_X0_outcomeOf_256 rfl) (u2_d (u1_7 hc_X0_outcomeOf_256 rfl) (u1_8 hc_X0_outcomeOf_256 rfl) rfl) rfl
theorem dX0_outcomeOf_265 : decode cX0_outcomeOf 265 = .ok (.invokevirtual 83, 3) := o_182 (u1_9 hc_X0_outcomeOf_256 rfl) (u2_d (u1_10 hc_X0_outcomeOf_256 rfl) (u1_11 hc_X0_outcomeOf_256 rfl) rfl) rfl
theorem dX0_outcomeOf_268 : decode cX0_outcomeOf 268 = .ok (.invokevirtual 162, 3) := o_182 (u1_12 hc_X0_outcomeOf_256 rfl) (u2_d (u1_13 hc_X0_outcomeOf_256 rfl) (u1_14 hc_X0_outcomeOf_256 rfl) rfl) rfl
theorem dX0_outcomeOf_271 : decode cX0_outcomeOf 271 = .ok (.goto 5, 3) := o_167 (u1_15 hc_X0_outcomeOf_256 rfl) (s2_d (u2_d (u1_16 hc_X0_outcomeOf_256 rfl) (u1_17 hc_X0_outcomeOf_256 rfl) rfl) rfl) rfl
theorem hc_X0_outcomeOf_272 : ((bL cX0_outcomeOf).drop 272).take 18 = [0, 5, 21, 4, 172] := by decide +kernel
theorem dX0_outcomeOf_274 : decode cX0_outcomeOf 274 = .ok (.iload 4, 2) := o_21 (u1_2 hc_X0_outcomeOf_272 rfl) (u1_3 hc_X0_outcomeOf_272 rfl) rfl
theorem dX0_outcomeOf_276 : decode cX0_outcomeOf 276 = .ok (.ireturn, 1) := o_172 (u1_4 hc_X0_outcomeOf_272 rfl) rfl
theorem hc_X0_placedAs_0 : ((bL cX0_placedAs).drop 0).take 18 = [27, 42, 180, 0, 33, 28, 182, 0, 80, 42, 180, 0, 33, 28, 182, 0, 83, 184] := by decide +kernel
theorem dX0_placedAs_0 : decode cX0_placedAs 0 = .ok (.iload_n 1, 1) := o_27 (u1_0 hc_X0_placedAs_0 rfl) rfl
theorem dX0_placedAs_1 : decode cX0_placedAs 1 = .ok (.aload_n 0, 1) := o_42 (u1_1 hc_X0_placedAs_0 rfl) rfl
theorem dX0_placedAs_2 : decode cX0_placedAs 2 = .ok (.getfield 33, 3) := o_180 (u1_2 hc_X0_placedAs_0 rfl) (u2_d (u1_3 hc_X0_placedAs_0 rfl) (u1_4 hc_X0_placedAs_0 rfl) rfl) rfl
theorem dX0_placedAs_5 : decode cX0_placedAs 5 = .ok (.iload_n 2, 1) := o_28 (u1_5 hc_X0_placedAs_0 rfl) rfl
theorem dX0_placedAs_6 : decode cX0_placedAs 6 = .ok (.invokevirtual 80, 3) := o_182 (u1_6 hc_X0_placedAs_0 rfl) (u2_d (u1_7 hc_X0_placedAs_0 rfl) (u1_8 hc_X0_placedAs_0 rfl) rfl) rfl
theorem dX0_placedAs_9 : decode cX0_placedAs 9 = .ok (.aload_n 0, 1) := o_42 (u1_9 hc_X0_placedAs_0 rfl) rfl
theorem dX0_placedAs_10 : decode cX0_placedAs 10 = .ok (.getfield 33, 3) := o_180 (u1_10 hc_X0_placedAs_0 rfl) (u2_d (u1_11 hc_X0_placedAs_0 rfl) (u1_12 hc_X0_placedAs_0 rfl) rfl) rfl
theorem dX0_placedAs_13 : decode cX0_placedAs 13 = .ok (.iload_n 2, 1) := o_28 (u1_13 hc_X0_placedAs_0 rfl) rfl
theorem dX0_placedAs_14 : decode cX0_placedAs 14 = .ok (.invokevirtual 83, 3) := o_182 (u1_14 hc_X0_placedAs_0 rfl) (u2_d (u1_15 hc_X0_placedAs_0 rfl) (u1_16 hc_X0_placedAs_0 rfl) rfl) rfl
theorem hc_X0_placedAs_16 : ((bL cX0_placedAs).drop 16).take 18 = [83, 184, 0, 155, 172] := by decide +kernel
theorem dX0_placedAs_17 : decode cX0_placedAs 17 = .ok (.invokestatic 155, 3) := o_184 (u1_1 hc_X0_placedAs_16 rfl) (u2_d (u1_2 hc_X0_placedAs_16 rfl) (u1_3 hc_X0_placedAs_16 rfl) rfl) rfl
theorem dX0_placedAs_20 : decode cX0_placedAs 20 = .ok (.ireturn, 1) := o_172 (u1_4 hc_X0_placedAs_16 rfl) rfl
theorem hc_X1_init_0 : ((bL cX1_init).drop 0).take 18 = [42, 183, 0, 3, 42, 17, 0, 200, 188, 10, 181, 0, 9, 42, 17, 0, 200, 188] := by decide +kernel
theorem dX1_init_0 : decode cX1_init 0 = .ok (.aload_n 0, 1) := o_42 (u1_0 hc_X1_init_0 rfl) rfl
theorem dX1_init_1 : decode cX1_init 1 = .ok (.invokespecial 3, 3) := o_183 (u1_1 hc_X1_init_0 rfl) (u2_d (u1_2 hc_X1_init_0 rfl) (u1_3 hc_X1_init_0 rfl) rfl) rfl
theorem dX1_init_4 : decode cX1_init 4 = .ok (.aload_n 0, 1) := o_42 (u1_4 hc_X1_init_0 rfl) rfl
theorem dX1_init_5 : decode cX1_init 5 = .ok (.sipush 200, 3) := o_17 (u1_5 hc_X1_init_0 rfl) (s2_d (u2_d (u1_6 hc_X1_init_0 rfl) (u1_7 hc_X1_init_0 rfl) rfl) rfl) rfl
theorem dX1_init_8 : decode cX1_init 8 = .ok (.newarray .int, 2) := o_188_10 (u1_8 hc_X1_init_0 rfl) (u1_9 hc_X1_init_0 rfl) rfl
theorem dX1_init_10 : decode cX1_init 10 = .ok (.putfield 9, 3) := o_181 (u1_10 hc_X1_init_0 rfl) (u2_d (u1_11 hc_X1_init_0 rfl) (u1_12 hc_X1_init_0 rfl) rfl) rfl
theorem dX1_init_13 : decode cX1_init 13 = .ok (.aload_n 0, 1) := o_42 (u1_13 hc_X1_init_0 rfl) rfl
theorem dX1_init_14 : decode cX1_init 14 = .ok (.sipush 200, 3) := o_17 (u1_14 hc_X1_init_0 rfl) (s2_d (u2_d (u1_15 hc_X1_init_0 rfl) (u1_16 hc_X1_init_0 rfl) rfl) rfl) rfl
theorem hc_X1_init_16 : ((bL cX1_init).drop 16).take 18 = [200, 188, 10, 181, 0, 15, 42, 17, 0, 200, 188, 10, 181, 0, 18, 42, 17, 0] := by decide +kernel
theorem dX1_init_17 : decode cX1_init 17 = .ok (.newarray .int, 2) := o_188_10 (u1_1 hc_X1_init_16 rfl) (u1_2 hc_X1_init_16 rfl) rfl
theorem dX1_init_19 : decode cX1_init 19 = .ok (.putfield 15, 3) := o_181 (u1_3 hc_X1_init_16 rfl) (u2_d (u1_4 hc_X1_init_16 rfl) (u1_5 hc_X1_init_16 rfl) rfl) rfl
theorem dX1_init_22 : decode cX1_init 22 = .ok (.aload_n 0, 1) := o_42 (u1_6 hc_X1_init_16 rfl) rfl
theorem dX1_init_23 : decode cX1_init 23 = .ok (.sipush 200, 3) := o_17 (u1_7 hc_X1_init_16 rfl) (s2_d (u2_d (u1_8 hc_X1_init_16 rfl) (u1_9 hc_X1_init_16 rfl) rfl) rfl) rfl
theorem dX1_init_26 : decode cX1_init 26 = .ok (.newarray .int, 2) := o_188_10 (u1_10 hc_X1_init_16 rfl) (u1_11 hc_X1_init_16 rfl) rfl
theorem dX1_init_28 : decode cX1_init 28 = .ok (.putfield 18, 3) := o_181 (u1_12 hc_X1_init_16 rfl) (u2_d (u1_13 hc_X1_init_16 rfl) (u1_14 hc_X1_init_16 rfl) rfl) rfl
theorem dX1_init_31 : decode cX1_init 31 = .ok (.aload_n 0, 1) := o_42 (u1_15 hc_X1_init_16 rfl) rfl
theorem hc_X1_init_32 : ((bL cX1_init).drop 32).take 18 = [17, 0, 200, 188, 10, 181, 0, 21, 42, 17, 0, 200, 188, 4, 181, 0, 24, 42] := by decide +kernel
theorem dX1_init_32 : decode cX1_init 32 = .ok (.sipush 200, 3) := o_17 (u1_0 hc_X1_init_32 rfl) (s2_d (u2_d (u1_1 hc_X1_init_32 rfl) (u1_2 hc_X1_init_32 rfl) rfl) rfl) rfl
theorem dX1_init_35 : decode cX1_init 35 = .ok (.newarray .int, 2) := o_188_10 (u1_3 hc_X1_init_32 rfl) (u1_4 hc_X1_init_32 rfl) rfl
theorem dX1_init_37 : decode cX1_init 37 = .ok (.putfield 21, 3) := o_181 (u1_5 hc_X1_init_32 rfl) (u2_d (u1_6 hc_X1_init_32 rfl) (u1_7 hc_X1_init_32 rfl) rfl) rfl
theorem dX1_init_40 : decode cX1_init 40 = .ok (.aload_n 0, 1) := o_42 (u1_8 hc_X1_init_32 rfl) rfl
theorem dX1_init_41 : decode cX1_init 41 = .ok (.sipush 200, 3) := o_17 (u1_9 hc_X1_init_32 rfl) (s2_d (u2_d (u1_10 hc_X1_init_32 rfl) (u1_11 hc_X1_init_32 rfl) rfl) rfl) rfl
theorem dX1_init_44 : decode cX1_init 44 = .ok (.newarray .boolean, 2) := o_188_4 (u1_12 hc_X1_init_32 rfl) (u1_13 hc_X1_init_32 rfl) rfl
theorem dX1_init_46 : decode cX1_init 46 = .ok (.putfield 24, 3) := o_181 (u1_14 hc_X1_init_32 rfl) (u2_d (u1_15 hc_X1_init_32 rfl) (u1_16 hc_X1_init_32 rfl) rfl) rfl
theorem hc_X1_init_48 : ((bL cX1_init).drop 48).take 18 = [24, 42, 16, 30, 188, 10, 181, 0, 28, 42, 17, 1, 44, 188, 10, 181, 0, 31] := by decide +kernel
theorem dX1_init_49 : decode cX1_init 49 = .ok (.aload_n 0, 1) := o_42 (u1_1 hc_X1_init_48 rfl) rfl
theorem dX1_init_50 : decode cX1_init 50 = .ok (.bipush 30, 2) := o_16 (u1_2 hc_X1_init_48 rfl) (s1_d (u1_3 hc_X1_init_48 rfl) rfl) rfl
theorem dX1_init_52 : decode cX1_init 52 = .ok (.newarray .int, 2) := o_188_10 (u1_4 hc_X1_init_48 rfl) (u1_5 hc_X1_init_48 rfl) rfl
theorem dX1_init_54 : decode cX1_init 54 = .ok (.putfield 28, 3) := o_181 (u1_6 hc_X1_init_48 rfl) (u2_d (u1_7 hc_X1_init_48 rfl) (u1_8 hc_X1_init_48 rfl) rfl) rfl
theorem dX1_init_57 : decode cX1_init 57 = .ok (.aload_n 0, 1) := o_42 (u1_9 hc_X1_init_48 rfl) rfl
theorem dX1_init_58 : decode cX1_init 58 = .ok (.sipush 300, 3) := o_17 (u1_10 hc_X1_init_48 rfl) (s2_d (u2_d (u1_11 hc_X1_init_48 rfl) (u1_12 hc_X1_init_48 rfl) rfl) rfl) rfl
theorem dX1_init_61 : decode cX1_init 61 = .ok (.newarray .int, 2) := o_188_10 (u1_13 hc_X1_init_48 rfl) (u1_14 hc_X1_init_48 rfl) rfl
theorem dX1_init_63 : decode cX1_init 63 = .ok (.putfield 31, 3) := o_181 (u1_15 hc_X1_init_48 rfl) (u2_d (u1_16 hc_X1_init_48 rfl) (u1_17 hc_X1_init_48 rfl) rfl) rfl
theorem hc_X1_init_64 : ((bL cX1_init).drop 64).take 18 = [0, 31, 42, 17, 0, 180, 188, 10, 181, 0, 34, 42, 16, 30, 188, 10, 181, 0] := by decide +kernel
theorem dX1_init_66 : decode cX1_init 66 = .ok (.aload_n 0, 1) := o_42 (u1_2 hc_X1_init_64 rfl) rfl
theorem dX1_init_67 : decode cX1_init 67 = .ok (.sipush 180, 3) := o_17 (u1_3 hc_X1_init_64 rfl) (s2_d (u2_d (u1_4 hc_X1_init_64 rfl) (u1_5 hc_X1_init_64 rfl) rfl) rfl) rfl
theorem dX1_init_70 : decode cX1_init 70 = .ok (.newarray .int, 2) := o_188_10 (u1_6 hc_X1_init_64 rfl) (u1_7 hc_X1_init_64 rfl) rfl
theorem dX1_init_72 : decode cX1_init 72 = .ok (.putfield 34, 3) := o_181 (u1_8 hc_X1_init_64 rfl) (u2_d (u1_9 hc_X1_init_64 rfl) (u1_10 hc_X1_init_64 rfl) rfl) rfl
theorem dX1_init_75 : decode cX1_init 75 = .ok (.aload_n 0, 1) := o_42 (u1_11 hc_X1_init_64 rfl) rfl
theorem dX1_init_76 : decode cX1_init 76 = .ok (.bipush 30, 2) := o_16 (u1_12 hc_X1_init_64 rfl) (s1_d (u1_13 hc_X1_init_64 rfl) rfl) rfl
theorem dX1_init_78 : decode cX1_init 78 = .ok (.newarray .int, 2) := o_188_10 (u1_14 hc_X1_init_64 rfl) (u1_15 hc_X1_init_64 rfl) rfl
theorem hc_X1_init_80 : ((bL cX1_init).drop 80).take 18 = [181, 0, 37, 42, 16, 30, 188, 10, 181, 0, 40, 42, 43, 181, 0, 43, 42, 187] := by decide +kernel
theorem dX1_init_80 : decode cX1_init 80 = .ok (.putfield 37, 3) := o_181 (u1_0 hc_X1_init_80 rfl) (u2_d (u1_1 hc_X1_init_80 rfl) (u1_2 hc_X1_init_80 rfl) rfl) rfl
theorem dX1_init_83 : decode cX1_init 83 = .ok (.aload_n 0, 1) := o_42 (u1_3 hc_X1_init_80 rfl) rfl
theorem dX1_init_84 : decode cX1_init 84 = .ok (.bipush 30, 2) := o_16 (u1_4 hc_X1_init_80 rfl) (s1_d (u1_5 hc_X1_init_80 rfl) rfl) rfl
theorem dX1_init_86 : decode cX1_init 86 = .ok (.newarray .int, 2) := o_188_10 (u1_6 hc_X1_init_80 rfl) (u1_7 hc_X1_init_80 rfl) rfl
theorem dX1_init_88 : decode cX1_init 88 = .ok (.putfield 40, 3) := o_181 (u1_8 hc_X1_init_80 rfl) (u2_d (u1_9 hc_X1_init_80 rfl) (u1_10 hc_X1_init_80 rfl) rfl) rfl
theorem dX1_init_91 : decode cX1_init 91 = .ok (.aload_n 0, 1) := o_42 (u1_11 hc_X1_init_80 rfl) rfl
theorem dX1_init_92 : decode cX1_init 92 = .ok (.aload_n 1, 1) := o_43 (u1_12 hc_X1_init_80 rfl) rfl
theorem dX1_init_93 : decode cX1_init 93 = .ok (.putfield 43, 3) := o_181 (u1_13 hc_X1_init_80 rfl) (u2_d (u1_14 hc_X1_init_80 rfl) (u1_15 hc_X1_init_80 rfl) rfl) rfl
theorem hc_X1_init_96 : ((bL cX1_init).drop 96).take 18 = [42, 187, 0, 47, 89, 43, 183, 0, 49, 181, 0, 52, 42, 180, 0, 28, 16, 247] := by decide +kernel
theorem dX1_init_96 : decode cX1_init 96 = .ok (.aload_n 0, 1) := o_42 (u1_0 hc_X1_init_96 rfl) rfl
theorem dX1_init_97 : decode cX1_init 97 = .ok (.new 47, 3) := o_187 (u1_1 hc_X1_init_96 rfl) (u2_d (u1_2 hc_X1_init_96 rfl) (u1_3 hc_X1_init_96 rfl) rfl) rfl
theorem dX1_init_100 : decode cX1_init 100 = .ok (.dup, 1) := o_89 (u1_4 hc_X1_init_96 rfl) rfl
theorem dX1_init_101 : decode cX1_init 101 = .ok (.aload_n 1, 1) := o_43 (u1_5 hc_X1_init_96 rfl) rfl
theorem dX1_init_102 : decode cX1_init 102 = .ok (.invokespecial 49, 3) := o_183 (u1_6 hc_X1_init_96 rfl) (u2_d (u1_7 hc_X1_init_96 rfl) (u1_8 hc_X1_init_96 rfl) rfl) rfl
theorem dX1_init_105 : decode cX1_init 105 = .ok (.putfield 52, 3) := o_181 (u1_9 hc_X1_init_96 rfl) (u2_d (u1_10 hc_X1_init_96 rfl) (u1_11 hc_X1_init_96 rfl) rfl) rfl
theorem dX1_init_108 : decode cX1_init 108 = .ok (.aload_n 0, 1) := o_42 (u1_12 hc_X1_init_96 rfl) rfl
theorem dX1_init_109 : decode cX1_init 109 = .ok (.getfield 28, 3) := o_180 (u1_13 hc_X1_init_96 rfl) (u2_d (u1_14 hc_X1_init_96 rfl) (u1_15 hc_X1_init_96 rfl) rfl) rfl
theorem hc_X1_init_112 : ((bL cX1_init).drop 112).take 18 = [16, 247, 184, 0, 56, 42, 180, 0, 31, 16, 247, 184, 0, 56, 42, 180, 0, 34] := by decide +kernel
theorem dX1_init_112 : decode cX1_init 112 = .ok (.bipush (-9), 2) := o_16 (u1_0 hc_X1_init_112 rfl) (s1_d (u1_1 hc_X1_init_112 rfl) rfl) rfl
theorem dX1_init_114 : decode cX1_init 114 = .ok (.invokestatic 56, 3) := o_184 (u1_2 hc_X1_init_112 rfl) (u2_d (u1_3 hc_X1_init_112 rfl) (u1_4 hc_X1_init_112 rfl) rfl) rfl
theorem dX1_init_117 : decode cX1_init 117 = .ok (.aload_n 0, 1) := o_42 (u1_5 hc_X1_init_112 rfl) rfl
theorem dX1_init_118 : decode cX1_init 118 = .ok (.getfield 31, 3) := o_180 (u1_6 hc_X1_init_112 rfl) (u2_d (u1_7 hc_X1_init_112 rfl) (u1_8 hc_X1_init_112 rfl) rfl) rfl
theorem dX1_init_121 : decode cX1_init 121 = .ok (.bipush (-9), 2) := o_16 (u1_9 hc_X1_init_112 rfl) (s1_d (u1_10 hc_X1_init_112 rfl) rfl) rfl
theorem dX1_init_123 : decode cX1_init 123 = .ok (.invokestatic 56, 3) := o_184 (u1_11 hc_X1_init_112 rfl) (u2_d (u1_12 hc_X1_init_112 rfl) (u1_13 hc_X1_init_112 rfl) rfl) rfl
theorem dX1_init_126 : decode cX1_init 126 = .ok (.aload_n 0, 1) := o_42 (u1_14 hc_X1_init_112 rfl) rfl
theorem dX1_init_127 : decode cX1_init 127 = .ok (.getfield 34, 3) := o_180 (u1_15 hc_X1_init_112 rfl) (u2_d (u1_16 hc_X1_init_112 rfl) (u1_17 hc_X1_init_112 rfl) rfl) rfl
theorem hc_X1_init_128 : ((bL cX1_init).drop 128).take 18 = [0, 34, 16, 247, 184, 0, 56, 42, 180, 0, 37, 16, 247, 184, 0, 56, 177] := by decide +kernel
theorem dX1_init_130 : decode cX1_init 130 = .ok (.bipush (-9), 2) := o_16 (u1_2 hc_X1_init_128 rfl) (s1_d (u1_3 hc_X1_init_128 rfl) rfl) rfl
theorem dX1_init_132 : decode cX1_init 132 = .ok (.invokestatic 56, 3) := o_184 (u1_4 hc_X1_init_128 rfl) (u2_d (u1_5 hc_X1_init_128 rfl) (u1_6 hc_X1_init_128 rfl) rfl) rfl
theorem dX1_init_135 : decode cX1_init 135 = .ok (.aload_n 0, 1) := o_42 (u1_7 hc_X1_init_128 rfl) rfl
theorem dX1_init_136 : decode cX1_init 136 = .ok (.getfield 37, 3) := o_180 (u1_8 hc_X1_init_128 rfl) (u2_d (u1_9 hc_X1_init_128 rfl) (u1_10 hc_X1_init_128 rfl) rfl) rfl
theorem dX1_init_139 : decode cX1_init 139 = .ok (.bipush (-9), 2) := o_16 (u1_11 hc_X1_init_128 rfl) (s1_d (u1_12 hc_X1_init_128 rfl) rfl) rfl
theorem dX1_init_141 : decode cX1_init 141 = .ok (.invokestatic 56, 3) := o_184 (u1_13 hc_X1_init_128 rfl) (u2_d (u1_14 hc_X1_init_128 rfl) (u1_15 hc_X1_init_128 rfl) rfl) rfl
theorem hc_X1_init_144 : ((bL cX1_init).drop 144).take 18 = [177] := by decide +kernel
theorem dX1_init_144 : decode cX1_init 144 = .ok (.return_, 1) := o_177 (u1_0 hc_X1_init_144 rfl) rfl
theorem hc_X1_isWellFormed_0 : ((bL cX1_isWellFormed).drop 0).take 18 = [27, 155, 0, 20, 27, 16, 7, 163, 0, 14, 42, 180, 0, 43, 28, 182, 0, 62] := by decide +kernel
theorem dX1_isWellFormed_0 : decode cX1_isWellFormed 0 = .ok (.iload_n 1, 1) := o_27 (u1_0 hc_X1_isWellFormed_0 rfl) rfl
theorem dX1_isWellFormed_1 : decode cX1_isWellFormed 1 = .ok (.ifCond .lt 20, 3) := o_155 (u1_1 hc_X1_isWellFormed_0 rfl) (s2_d (u2_d (u1_2 hc_X1_isWellFormed_0 rfl) (u1_3 hc_X1_isWellFormed_0 rfl) rfl) rfl) rfl
theorem dX1_isWellFormed_4 : decode cX1_isWellFormed 4 = .ok (.iload_n 1, 1) := o_27 (u1_4 hc_X1_isWellFormed_0 rfl) rfl
theorem dX1_isWellFormed_5 : decode cX1_isWellFormed 5 = .ok (.bipush 7, 2) := o_16 (u1_5 hc_X1_isWellFormed_0 rfl) (s1_d (u1_6 hc_X1_isWellFormed_0 rfl) rfl) rfl
theorem dX1_isWellFormed_7 : decode cX1_isWellFormed 7 = .ok (.if_icmp .gt 14, 3) := o_163 (u1_7 hc_X1_isWellFormed_0 rfl) (s2_d (u2_d (u1_8 hc_X1_isWellFormed_0 rfl) (u1_9 hc_X1_isWellFormed_0 rfl) rfl) rfl) rfl
theorem dX1_isWellFormed_10 : decode cX1_isWellFormed 10 = .ok (.aload_n 0, 1) := o_42 (u1_10 hc_X1_isWellFormed_0 rfl) rfl
theorem dX1_isWellFormed_11 : decode cX1_isWellFormed 11 = .ok (.getfield 43, 3) := o_180 (u1_11 hc_X1_isWellFormed_0 rfl) (u2_d (u1_12 hc_X1_isWellFormed_0 rfl) (u1_13 hc_X1_isWellFormed_0 rfl) rfl) rfl
theorem dX1_isWellFormed_14 : decode cX1_isWellFormed 14 = .ok (.iload_n 2, 1) := o_28 (u1_14 hc_X1_isWellFormed_0 rfl) rfl
theorem dX1_isWellFormed_15 : decode cX1_isWellFormed 15 = .ok (.invokevirtual 62, 3) := o_182 (u1_15 hc_X1_isWellFormed_0 rfl) (u2_d (u1_16 hc_X1_isWellFormed_0 rfl) (u1_17 hc_X1_isWellFormed_0 rfl) rfl) rfl
theorem hc_X1_isWellFormed_16 : ((bL cX1_isWellFormed).drop 16).take 18 = [0, 62, 154, 0, 5, 3, 172, 27, 16, 6, 160, 0, 29, 29, 16, 6, 184, 0] := by decide +kernel
theorem dX1_isWellFormed_18 : decode cX1_isWellFormed 18 = .ok (.ifCond .ne 5, 3) := o_154 (u1_2 hc_X1_isWellFormed_16 rfl) (s2_d (u2_d (u1_3 hc_X1_isWellFormed_16 rfl) (u1_4 hc_X1_isWellFormed_16 rfl) rfl) rfl) rfl
theorem dX1_isWellFormed_21 : decode cX1_isWellFormed 21 = .ok (.iconst 0, 1) := o_3 (u1_5 hc_X1_isWellFormed_16 rfl) rfl
theorem dX1_isWellFormed_22 : decode cX1_isWellFormed 22 = .ok (.ireturn, 1) := o_172 (u1_6 hc_X1_isWellFormed_16 rfl) rfl
theorem dX1_isWellFormed_23 : decode cX1_isWellFormed 23 = .ok (.iload_n 1, 1) := o_27 (u1_7 hc_X1_isWellFormed_16 rfl) rfl
theorem dX1_isWellFormed_24 : decode cX1_isWellFormed 24 = .ok (.bipush 6, 2) := o_16 (u1_8 hc_X1_isWellFormed_16 rfl) (s1_d (u1_9 hc_X1_isWellFormed_16 rfl) rfl) rfl
theorem dX1_isWellFormed_26 : decode cX1_isWellFormed 26 = .ok (.if_icmp .ne 29, 3) := o_160 (u1_10 hc_X1_isWellFormed_16 rfl) (s2_d (u2_d (u1_11 hc_X1_isWellFormed_16 rfl) (u1_12 hc_X1_isWellFormed_16 rfl) rfl) rfl) rfl
theorem dX1_isWellFormed_29 : decode cX1_isWellFormed 29 = .ok (.iload_n 3, 1) := o_29 (u1_13 hc_X1_isWellFormed_16 rfl) rfl
theorem dX1_isWellFormed_30 : decode cX1_isWellFormed 30 = .ok (.bipush 6, 2) := o_16 (u1_14 hc_X1_isWellFormed_16 rfl) (s1_d (u1_15 hc_X1_isWellFormed_16 rfl) rfl) rfl
theorem hc_X1_isWellFormed_32 : ((bL cX1_isWellFormed).drop 32).take 18 = [184, 0, 68, 153, 0, 18, 21, 4, 153, 0, 9, 21, 4, 4, 160, 0, 7, 4] := by decide +kernel
theorem dX1_isWellFormed_32 : decode cX1_isWellFormed 32 = .ok (.invokestatic 68, 3) := o_184 (u1_0 hc_X1_isWellFormed_32 rfl) (u2_d (u1_1 hc_X1_isWellFormed_32 rfl) (u1_2 hc_X1_isWellFormed_32 rfl) rfl) rfl
theorem dX1_isWellFormed_35 : decode cX1_isWellFormed 35 = .ok (.ifCond .eq 18, 3) := o_153 (u1_3 hc_X1_isWellFormed_32 rfl) (s2_d (u2_d (u1_4 hc_X1_isWellFormed_32 rfl) (u1_5 hc_X1_isWellFormed_32 rfl) rfl) rfl) rfl
theorem dX1_isWellFormed_38 : decode cX1_isWellFormed 38 = .ok (.iload 4, 2) := o_21 (u1_6 hc_X1_isWellFormed_32 rfl) (u1_7 hc_X1_isWellFormed_32 rfl) rfl
theorem dX1_isWellFormed_40 : decode cX1_isWellFormed 40 = .ok (.ifCond .eq 9, 3) := o_153 (u1_8 hc_X1_isWellFormed_32 rfl) (s2_d (u2_d (u1_9 hc_X1_isWellFormed_32 rfl) (u1_10 hc_X1_isWellFormed_32 rfl) rfl) rfl) rfl
theorem dX1_isWellFormed_43 : decode cX1_isWellFormed 43 = .ok (.iload 4, 2) := o_21 (u1_11 hc_X1_isWellFormed_32 rfl) (u1_12 hc_X1_isWellFormed_32 rfl) rfl
theorem dX1_isWellFormed_45 : decode cX1_isWellFormed 45 = .ok (.iconst 1, 1) := o_4 (u1_13 hc_X1_isWellFormed_32 rfl) rfl
theorem dX1_isWellFormed_46 : decode cX1_isWellFormed 46 = .ok (.if_icmp .ne 7, 3) := o_160 (u1_14 hc_X1_isWellFormed_32 rfl) (s2_d (u2_d (u1_15 hc_X1_isWellFormed_32 rfl) (u1_16 hc_X1_isWellFormed_32 rfl) rfl) rfl) rfl
theorem hc_X1_isWellFormed_48 : ((bL cX1_isWellFormed).drop 48).take 18 = [7, 4, 167, 0, 4, 3, 172, 42, 180, 0, 43, 29, 182, 0, 62, 153, 0, 22] := by decide +kernel
theorem dX1_isWellFormed_49 : decode cX1_isWellFormed 49 = .ok (.iconst 1, 1) := o_4 (u1_1 hc_X1_isWellFormed_48 rfl) rfl
theorem dX1_isWellFormed_50 : decode cX1_isWellFormed 50 = .ok (.goto 4, 3) := o_167 (u1_2 hc_X1_isWellFormed_48 rfl) (s2_d (u2_d (u1_3 hc_X1_isWellFormed_48 rfl) (u1_4 hc_X1_isWellFormed_48 rfl) rfl) rfl) rfl
theorem dX1_isWellFormed_53 : decode cX1_isWellFormed 53 = .ok (.iconst 0, 1) := o_3 (u1_5 hc_X1_isWellFormed_48 rfl) rfl
theorem dX1_isWellFormed_54 : decode cX1_isWellFormed 54 = .ok (.ireturn, 1) := o_172 (u1_6 hc_X1_isWellFormed_48 rfl) rfl
theorem dX1_isWellFormed_55 : decode cX1_isWellFormed 55 = .ok (.aload_n 0, 1) := o_42 (u1_7 hc_X1_isWellFormed_48 rfl) rfl
theorem dX1_isWellFormed_56 : decode cX1_isWellFormed 56 = .ok (.getfield 43, 3) := o_180 (u1_8 hc_X1_isWellFormed_48 rfl) (u2_d (u1_9 hc_X1_isWellFormed_48 rfl) (u1_10 hc_X1_isWellFormed_48 rfl) rfl) rfl
theorem dX1_isWellFormed_59 : decode cX1_isWellFormed 59 = .ok (.iload_n 3, 1) := o_29 (u1_11 hc_X1_isWellFormed_48 rfl) rfl
theorem dX1_isWellFormed_60 : decode cX1_isWellFormed 60 = .ok (.invokevirtual 62, 3) := o_182 (u1_12 hc_X1_isWellFormed_48 rfl) (u2_d (u1_13 hc_X1_isWellFormed_48 rfl) (u1_14 hc_X1_isWellFormed_48 rfl) rfl) rfl
theorem dX1_isWellFormed_63 : decode cX1_isWellFormed 63 = .ok (.ifCond .eq 22, 3) := o_153 (u1_15 hc_X1_isWellFormed_48 rfl) (s2_d (u2_d (u1_16 hc_X1_isWellFormed_48 rfl) (u1_17 hc_X1_isWellFormed_48 rfl) rfl) rfl) rfl
theorem hc_X1_isWellFormed_64 : ((bL cX1_isWellFormed).drop 64).take 18 = [0, 22, 27, 8, 160, 0, 13, 21, 4, 16, 10, 184, 0, 68, 153, 0, 7, 4] := by decide +kernel
theorem dX1_isWellFormed_66 : decode cX1_isWellFormed 66 = .ok (.iload_n 1, 1) := o_27 (u1_2 hc_X1_isWellFormed_64 rfl) rfl
theorem dX1_isWellFormed_67 : decode cX1_isWellFormed 67 = .ok (.iconst 5, 1) := o_8 (u1_3 hc_X1_isWellFormed_64 rfl) rfl
theorem dX1_isWellFormed_68 : decode cX1_isWellFormed 68 = .ok (.if_icmp .ne 13, 3) := o_160 (u1_4 hc_X1_isWellFormed_64 rfl) (s2_d (u2_d (u1_5 hc_X1_isWellFormed_64 rfl) (u1_6 hc_X1_isWellFormed_64 rfl) rfl) rfl) rfl
theorem dX1_isWellFormed_71 : decode cX1_isWellFormed 71 = .ok (.iload 4, 2) := o_21 (u1_7 hc_X1_isWellFormed_64 rfl) (u1_8 hc_X1_isWellFormed_64 rfl) rfl
theorem dX1_isWellFormed_73 : decode cX1_isWellFormed 73 = .ok (.bipush 10, 2) := o_16 (u1_9 hc_X1_isWellFormed_64 rfl) (s1_d (u1_10 hc_X1_isWellFormed_64 rfl) rfl) rfl
theorem dX1_isWellFormed_75 : decode cX1_isWellFormed 75 = .ok (.invokestatic 68, 3) := o_184 (u1_11 hc_X1_isWellFormed_64 rfl) (u2_d (u1_12 hc_X1_isWellFormed_64 rfl) (u1_13 hc_X1_isWellFormed_64 rfl) rfl) rfl
theorem dX1_isWellFormed_78 : decode cX1_isWellFormed 78 = .ok (.ifCond .eq 7, 3) := o_153 (u1_14 hc_X1_isWellFormed_64 rfl) (s2_d (u2_d (u1_15 hc_X1_isWellFormed_64 rfl) (u1_16 hc_X1_isWellFormed_64 rfl) rfl) rfl) rfl
theorem hc_X1_isWellFormed_80 : ((bL cX1_isWellFormed).drop 80).take 18 = [7, 4, 167, 0, 4, 3, 172] := by decide +kernel
theorem dX1_isWellFormed_81 : decode cX1_isWellFormed 81 = .ok (.iconst 1, 1) := o_4 (u1_1 hc_X1_isWellFormed_80 rfl) rfl
theorem dX1_isWellFormed_82 : decode cX1_isWellFormed 82 = .ok (.goto 4, 3) := o_167 (u1_2 hc_X1_isWellFormed_80 rfl) (s2_d (u2_d (u1_3 hc_X1_isWellFormed_80 rfl) (u1_4 hc_X1_isWellFormed_80 rfl) rfl) rfl) rfl
theorem dX1_isWellFormed_85 : decode cX1_isWellFormed 85 = .ok (.iconst 0, 1) := o_3 (u1_5 hc_X1_isWellFormed_80 rfl) rfl
theorem dX1_isWellFormed_86 : decode cX1_isWellFormed 86 = .ok (.ireturn, 1) := o_172 (u1_6 hc_X1_isWellFormed_80 rfl) rfl
theorem hc_X1_isFitting_0 : ((bL cX1_isFitting).drop 0).take 18 = [42, 180, 0, 43, 29, 182, 0, 72, 54, 4, 27, 170, 0, 0, 0, 187, 0, 0] := by decide +kernel
theorem dX1_isFitting_0 : decode cX1_isFitting 0 = .ok (.aload_n 0, 1) := o_42 (u1_0 hc_X1_isFitting_0 rfl) rfl
theorem dX1_isFitting_1 : decode cX1_isFitting 1 = .ok (.getfield 43, 3) := o_180 (u1_1 hc_X1_isFitting_0 rfl) (u2_d (u1_2 hc_X1_isFitting_0 rfl) (u1_3 hc_X1_isFitting_0 rfl) rfl) rfl
theorem dX1_isFitting_4 : decode cX1_isFitting 4 = .ok (.iload_n 3, 1) := o_29 (u1_4 hc_X1_isFitting_0 rfl) rfl
theorem dX1_isFitting_5 : decode cX1_isFitting 5 = .ok (.invokevirtual 72, 3) := o_182 (u1_5 hc_X1_isFitting_0 rfl) (u2_d (u1_6 hc_X1_isFitting_0 rfl) (u1_7 hc_X1_isFitting_0 rfl) rfl) rfl
theorem dX1_isFitting_8 : decode cX1_isFitting 8 = .ok (.istore 4, 2) := o_54 (u1_8 hc_X1_isFitting_0 rfl) (u1_9 hc_X1_isFitting_0 rfl) rfl
theorem dX1_isFitting_10 : decode cX1_isFitting 10 = .ok (.iload_n 1, 1) := o_27 (u1_10 hc_X1_isFitting_0 rfl) rfl
theorem dX1_isFitting_11 : decode cX1_isFitting 11 = .ok (.tableswitch 187 0 6 #[41, 71, 96, 96, 121, 145, 175], 41) := by decide +kernel
theorem hc_X1_isFitting_48 : ((bL cX1_isFitting).drop 48).take 18 = [0, 0, 0, 175, 42, 180, 0, 43, 28, 182, 0, 76, 153, 0, 18, 21, 4, 153] := by decide +kernel
theorem dX1_isFitting_52 : decode cX1_isFitting 52 = .ok (.aload_n 0, 1) := o_42 (u1_4 hc_X1_isFitting_48 rfl) rfl
theorem dX1_isFitting_53 : decode cX1_isFitting 53 = .ok (.getfield 43, 3) := o_180 (u1_5 hc_X1_isFitting_48 rfl) (u2_d (u1_6 hc_X1_isFitting_48 rfl) (u1_7 hc_X1_isFitting_48 rfl) rfl) rfl
theorem dX1_isFitting_56 : decode cX1_isFitting 56 = .ok (.iload_n 2, 1) := o_28 (u1_8 hc_X1_isFitting_48 rfl) rfl
theorem dX1_isFitting_57 : decode cX1_isFitting 57 = .ok (.invokevirtual 76, 3) := o_182 (u1_9 hc_X1_isFitting_48 rfl) (u2_d (u1_10 hc_X1_isFitting_48 rfl) (u1_11 hc_X1_isFitting_48 rfl) rfl) rfl
theorem dX1_isFitting_60 : decode cX1_isFitting 60 = .ok (.ifCond .eq 18, 3) := o_153 (u1_12 hc_X1_isFitting_48 rfl) (s2_d (u2_d (u1_13 hc_X1_isFitting_48 rfl) (u1_14 hc_X1_isFitting_48 rfl) rfl) rfl) rfl
theorem dX1_isFitting_63 : decode cX1_isFitting 63 = .ok (.iload 4, 2) := o_21 (u1_15 hc_X1_isFitting_48 rfl) (u1_16 hc_X1_isFitting_48 rfl) rfl
theorem hc_X1_isFitting_64 : ((bL cX1_isFitting).drop 64).take 18 = [4, 153, 0, 9, 21, 4, 6, 160, 0, 7, 4, 167, 0, 150, 3, 167, 0, 146] := by decide +kernel
theorem dX1_isFitting_65 : decode cX1_isFitting 65 = .ok (.ifCond .eq 9, 3) := o_153 (u1_1 hc_X1_isFitting_64 rfl) (s2_d (u2_d (u1_2 hc_X1_isFitting_64 rfl) (u1_3 hc_X1_isFitting_64 rfl) rfl) rfl) rfl
theorem dX1_isFitting_68 : decode cX1_isFitting 68 = .ok (.iload 4, 2) := o_21 (u1_4 hc_X1_isFitting_64 rfl) (u1_5 hc_X1_isFitting_64 rfl) rfl
theorem dX1_isFitting_70 : decode cX1_isFitting 70 = .ok (.iconst 3, 1) := o_6 (u1_6 hc_X1_isFitting_64 rfl) rfl
theorem dX1_isFitting_71 : decode cX1_isFitting 71 = .ok (.if_icmp .ne 7, 3) := o_160 (u1_7 hc_X1_isFitting_64 rfl) (s2_d (u2_d (u1_8 hc_X1_isFitting_64 rfl) (u1_9 hc_X1_isFitting_64 rfl) rfl) rfl) rfl
theorem dX1_isFitting_74 : decode cX1_isFitting 74 = .ok (.iconst 1, 1) := o_4 (u1_10 hc_X1_isFitting_64 rfl) rfl
theorem dX1_isFitting_75 : decode cX1_isFitting 75 = .ok (.goto 150, 3) := o_167 (u1_11 hc_X1_isFitting_64 rfl) (s2_d (u2_d (u1_12 hc_X1_isFitting_64 rfl) (u1_13 hc_X1_isFitting_64 rfl) rfl) rfl) rfl
theorem dX1_isFitting_78 : decode cX1_isFitting 78 = .ok (.iconst 0, 1) := o_3 (u1_14 hc_X1_isFitting_64 rfl) rfl
theorem dX1_isFitting_79 : decode cX1_isFitting 79 = .ok (.goto 146, 3) := o_167 (u1_15 hc_X1_isFitting_64 rfl) (s2_d (u2_d (u1_16 hc_X1_isFitting_64 rfl) (u1_17 hc_X1_isFitting_64 rfl) rfl) rfl) rfl
theorem hc_X1_isFitting_80 : ((bL cX1_isFitting).drop 80).take 18 = [0, 146, 42, 180, 0, 43, 28, 182, 0, 76, 153, 0, 13, 21, 4, 7, 160, 0] := by decide +kernel
theorem dX1_isFitting_82 : decode cX1_isFitting 82 = .ok (.aload_n 0, 1) := o_42 (u1_2 hc_X1_isFitting_80 rfl) rfl
theorem dX1_isFitting_83 : decode cX1_isFitting 83 = .ok (.getfield 43, 3) := o_180 (u1_3 hc_X1_isFitting_80 rfl) (u2_d (u1_4 hc_X1_isFitting_80 rfl) (u1_5 hc_X1_isFitting_80 rfl) rfl) rfl
theorem dX1_isFitting_86 : decode cX1_isFitting 86 = .ok (.iload_n 2, 1) := o_28 (u1_6 hc_X1_isFitting_80 rfl) rfl
theorem dX1_isFitting_87 : decode cX1_isFitting 87 = .ok (.invokevirtual 76, 3) := o_182 (u1_7 hc_X1_isFitting_80 rfl) (u2_d (u1_8 hc_X1_isFitting_80 rfl) (u1_9 hc_X1_isFitting_80 rfl) rfl) rfl
theorem dX1_isFitting_90 : decode cX1_isFitting 90 = .ok (.ifCond .eq 13, 3) := o_153 (u1_10 hc_X1_isFitting_80 rfl) (s2_d (u2_d (u1_11 hc_X1_isFitting_80 rfl) (u1_12 hc_X1_isFitting_80 rfl) rfl) rfl) rfl
theorem dX1_isFitting_93 : decode cX1_isFitting 93 = .ok (.iload 4, 2) := o_21 (u1_13 hc_X1_isFitting_80 rfl) (u1_14 hc_X1_isFitting_80 rfl) rfl
theorem dX1_isFitting_95 : decode cX1_isFitting 95 = .ok (.iconst 4, 1) := o_7 (u1_15 hc_X1_isFitting_80 rfl) rfl
theorem hc_X1_isFitting_96 : ((bL cX1_isFitting).drop 96).take 18 = [160, 0, 7, 4, 167, 0, 125, 3, 167, 0, 121, 42, 180, 0, 43, 28, 182, 0] := by decide +kernel
theorem dX1_isFitting_96 : decode cX1_isFitting 96 = .ok (.if_icmp .ne 7, 3) := o_160 (u1_0 hc_X1_isFitting_96 rfl) (s2_d (u2_d (u1_1 hc_X1_isFitting_96 rfl) (u1_2 hc_X1_isFitting_96 rfl) rfl) rfl) rfl
theorem dX1_isFitting_99 : decode cX1_isFitting 99 = .ok (.iconst 1, 1) := o_4 (u1_3 hc_X1_isFitting_96 rfl) rfl
theorem dX1_isFitting_100 : decode cX1_isFitting 100 = .ok (.goto 125, 3) := o_167 (u1_4 hc_X1_isFitting_96 rfl) (s2_d (u2_d (u1_5 hc_X1_isFitting_96 rfl) (u1_6 hc_X1_isFitting_96 rfl) rfl) rfl) rfl
theorem dX1_isFitting_103 : decode cX1_isFitting 103 = .ok (.iconst 0, 1) := o_3 (u1_7 hc_X1_isFitting_96 rfl) rfl
theorem dX1_isFitting_104 : decode cX1_isFitting 104 = .ok (.goto 121, 3) := o_167 (u1_8 hc_X1_isFitting_96 rfl) (s2_d (u2_d (u1_9 hc_X1_isFitting_96 rfl) (u1_10 hc_X1_isFitting_96 rfl) rfl) rfl) rfl
theorem dX1_isFitting_107 : decode cX1_isFitting 107 = .ok (.aload_n 0, 1) := o_42 (u1_11 hc_X1_isFitting_96 rfl) rfl
theorem dX1_isFitting_108 : decode cX1_isFitting 108 = .ok (.getfield 43, 3) := o_180 (u1_12 hc_X1_isFitting_96 rfl) (u2_d (u1_13 hc_X1_isFitting_96 rfl) (u1_14 hc_X1_isFitting_96 rfl) rfl) rfl
theorem dX1_isFitting_111 : decode cX1_isFitting 111 = .ok (.iload_n 2, 1) := o_28 (u1_15 hc_X1_isFitting_96 rfl) rfl
theorem hc_X1_isFitting_112 : ((bL cX1_isFitting).drop 112).take 18 = [182, 0, 79, 153, 0, 13, 21, 4, 8, 160, 0, 7, 4, 167, 0, 100, 3, 167] := by decide +kernel
theorem dX1_isFitting_112 : decode cX1_isFitting 112 = .ok (.invokevirtual 79, 3) := o_182 (u1_0 hc_X1_isFitting_112 rfl) (u2_d (u1_1 hc_X1_isFitting_112 rfl) (u1_2 hc_X1_isFitting_112 rfl) rfl) rfl
theorem dX1_isFitting_115 : decode cX1_isFitting 115 = .ok (.ifCond .eq 13, 3) := o_153 (u1_3 hc_X1_isFitting_112 rfl) (s2_d (u2_d (u1_4 hc_X1_isFitting_112 rfl) (u1_5 hc_X1_isFitting_112 rfl) rfl) rfl) rfl
theorem dX1_isFitting_118 : decode cX1_isFitting 118 = .ok (.iload 4, 2) := o_21 (u1_6 hc_X1_isFitting_112 rfl) (u1_7 hc_X1_isFitting_112 rfl) rfl
theorem dX1_isFitting_120 : decode cX1_isFitting 120 = .ok (.iconst 5, 1) := o_8 (u1_8 hc_X1_isFitting_112 rfl) rfl
theorem dX1_isFitting_121 : decode cX1_isFitting 121 = .ok (.if_icmp .ne 7, 3) := o_160 (u1_9 hc_X1_isFitting_112 rfl) (s2_d (u2_d (u1_10 hc_X1_isFitting_112 rfl) (u1_11 hc_X1_isFitting_112 rfl) rfl) rfl) rfl
theorem dX1_isFitting_124 : decode cX1_isFitting 124 = .ok (.iconst 1, 1) := o_4 (u1_12 hc_X1_isFitting_112 rfl) rfl
theorem dX1_isFitting_125 : decode cX1_isFitting 125 = .ok (.goto 100, 3) := o_167 (u1_13 hc_X1_isFitting_112 rfl) (s2_d (u2_d (u1_14 hc_X1_isFitting_112 rfl) (u1_15 hc_X1_isFitting_112 rfl) rfl) rfl) rfl
theorem hc_X1_isFitting_128 : ((bL cX1_isFitting).drop 128).take 18 = [3, 167, 0, 96, 42, 180, 0, 43, 28, 182, 0, 79, 153, 0, 12, 21, 4, 153] := by decide +kernel
theorem dX1_isFitting_128 : decode cX1_isFitting 128 = .ok (.iconst 0, 1) := o_3 (u1_0 hc_X1_isFitting_128 rfl) rfl
theorem dX1_isFitting_129 : decode cX1_isFitting 129 = .ok (.goto 96, 3) := o_167 (u1_1 hc_X1_isFitting_128 rfl) (s2_d (u2_d (u1_2 hc_X1_isFitting_128 rfl) (u1_3 hc_X1_isFitting_128 rfl) rfl) rfl) rfl
theorem dX1_isFitting_132 : decode cX1_isFitting 132 = .ok (.aload_n 0, 1) := o_42 (u1_4 hc_X1_isFitting_128 rfl) rfl
theorem dX1_isFitting_133 : decode cX1_isFitting 133 = .ok (.getfield 43, 3) := o_180 (u1_5 hc_X1_isFitting_128 rfl) (u2_d (u1_6 hc_X1_isFitting_128 rfl) (u1_7 hc_X1_isFitting_128 rfl) rfl) rfl
theorem dX1_isFitting_136 : decode cX1_isFitting 136 = .ok (.iload_n 2, 1) := o_28 (u1_8 hc_X1_isFitting_128 rfl) rfl
theorem dX1_isFitting_137 : decode cX1_isFitting 137 = .ok (.invokevirtual 79, 3) := o_182 (u1_9 hc_X1_isFitting_128 rfl) (u2_d (u1_10 hc_X1_isFitting_128 rfl) (u1_11 hc_X1_isFitting_128 rfl) rfl) rfl
theorem dX1_isFitting_140 : decode cX1_isFitting 140 = .ok (.ifCond .eq 12, 3) := o_153 (u1_12 hc_X1_isFitting_128 rfl) (s2_d (u2_d (u1_13 hc_X1_isFitting_128 rfl) (u1_14 hc_X1_isFitting_128 rfl) rfl) rfl) rfl
theorem dX1_isFitting_143 : decode cX1_isFitting 143 = .ok (.iload 4, 2) := o_21 (u1_15 hc_X1_isFitting_128 rfl) (u1_16 hc_X1_isFitting_128 rfl) rfl
theorem hc_X1_isFitting_144 : ((bL cX1_isFitting).drop 144).take 18 = [4, 153, 0, 7, 4, 167, 0, 76, 3, 167, 0, 72, 42, 180, 0, 43, 28, 182] := by decide +kernel
theorem dX1_isFitting_145 : decode cX1_isFitting 145 = .ok (.ifCond .eq 7, 3) := o_153 (u1_1 hc_X1_isFitting_144 rfl) (s2_d (u2_d (u1_2 hc_X1_isFitting_144 rfl) (u1_3 hc_X1_isFitting_144 rfl) rfl) rfl) rfl
theorem dX1_isFitting_148 : decode cX1_isFitting 148 = .ok (.iconst 1, 1) := o_4 (u1_4 hc_X1_isFitting_144 rfl) rfl
theorem dX1_isFitting_149 : decode cX1_isFitting 149 = .ok (.goto 76, 3) := o_167 (u1_5 hc_X1_isFitting_144 rfl) (s2_d (u2_d (u1_6 hc_X1_isFitting_144 rfl) (u1_7 hc_X1_isFitting_144 rfl) rfl) rfl) rfl
theorem dX1_isFitting_152 : decode cX1_isFitting 152 = .ok (.iconst 0, 1) := o_3 (u1_8 hc_X1_isFitting_144 rfl) rfl
theorem dX1_isFitting_153 : decode cX1_isFitting 153 = .ok (.goto 72, 3) := o_167 (u1_9 hc_X1_isFitting_144 rfl) (s2_d (u2_d (u1_10 hc_X1_isFitting_144 rfl) (u1_11 hc_X1_isFitting_144 rfl) rfl) rfl) rfl
theorem dX1_isFitting_156 : decode cX1_isFitting 156 = .ok (.aload_n 0, 1) := o_42 (u1_12 hc_X1_isFitting_144 rfl) rfl
theorem dX1_isFitting_157 : decode cX1_isFitting 157 = .ok (.getfield 43, 3) := o_180 (u1_13 hc_X1_isFitting_144 rfl) (u2_d (u1_14 hc_X1_isFitting_144 rfl) (u1_15 hc_X1_isFitting_144 rfl) rfl) rfl
theorem hc_X1_isFitting_160 : ((bL cX1_isFitting).drop 160).take 18 = [28, 182, 0, 72, 154, 0, 18, 21, 4, 153, 0, 9, 21, 4, 5, 160, 0, 7] := by decide +kernel
theorem dX1_isFitting_160 : decode cX1_isFitting 160 = .ok (.iload_n 2, 1) := o_28 (u1_0 hc_X1_isFitting_160 rfl) rfl
theorem dX1_isFitting_161 : decode cX1_isFitting 161 = .ok (.invokevirtual 72, 3) := o_182 (u1_1 hc_X1_isFitting_160 rfl) (u2_d (u1_2 hc_X1_isFitting_160 rfl) (u1_3 hc_X1_isFitting_160 rfl) rfl) rfl
theorem dX1_isFitting_164 : decode cX1_isFitting 164 = .ok (.ifCond .ne 18, 3) := o_154 (u1_4 hc_X1_isFitting_160 rfl) (s2_d (u2_d (u1_5 hc_X1_isFitting_160 rfl) (u1_6 hc_X1_isFitting_160 rfl) rfl) rfl) rfl
theorem dX1_isFitting_167 : decode cX1_isFitting 167 = .ok (.iload 4, 2) := o_21 (u1_7 hc_X1_isFitting_160 rfl) (u1_8 hc_X1_isFitting_160 rfl) rfl
theorem dX1_isFitting_169 : decode cX1_isFitting 169 = .ok (.ifCond .eq 9, 3) := o_153 (u1_9 hc_X1_isFitting_160 rfl) (s2_d (u2_d (u1_10 hc_X1_isFitting_160 rfl) (u1_11 hc_X1_isFitting_160 rfl) rfl) rfl) rfl
theorem dX1_isFitting_172 : decode cX1_isFitting 172 = .ok (.iload 4, 2) := o_21 (u1_12 hc_X1_isFitting_160 rfl) (u1_13 hc_X1_isFitting_160 rfl) rfl
theorem dX1_isFitting_174 : decode cX1_isFitting 174 = .ok (.iconst 2, 1) := o_5 (u1_14 hc_X1_isFitting_160 rfl) rfl
theorem dX1_isFitting_175 : decode cX1_isFitting 175 = .ok (.if_icmp .ne 7, 3) := o_160 (u1_15 hc_X1_isFitting_160 rfl) (s2_d (u2_d (u1_16 hc_X1_isFitting_160 rfl) (u1_17 hc_X1_isFitting_160 rfl) rfl) rfl) rfl
theorem hc_X1_isFitting_176 : ((bL cX1_isFitting).drop 176).take 18 = [0, 7, 4, 167, 0, 46, 3, 167, 0, 42, 42, 180, 0, 43, 28, 29, 182, 0] := by decide +kernel
theorem dX1_isFitting_178 : decode cX1_isFitting 178 = .ok (.iconst 1, 1) := o_4 (u1_2 hc_X1_isFitting_176 rfl) rfl
theorem dX1_isFitting_179 : decode cX1_isFitting 179 = .ok (.goto 46, 3) := o_167 (u1_3 hc_X1_isFitting_176 rfl) (s2_d (u2_d (u1_4 hc_X1_isFitting_176 rfl) (u1_5 hc_X1_isFitting_176 rfl) rfl) rfl) rfl
theorem dX1_isFitting_182 : decode cX1_isFitting 182 = .ok (.iconst 0, 1) := o_3 (u1_6 hc_X1_isFitting_176 rfl) rfl
theorem dX1_isFitting_183 : decode cX1_isFitting 183 = .ok (.goto 42, 3) := o_167 (u1_7 hc_X1_isFitting_176 rfl) (s2_d (u2_d (u1_8 hc_X1_isFitting_176 rfl) (u1_9 hc_X1_isFitting_176 rfl) rfl) rfl) rfl
theorem dX1_isFitting_186 : decode cX1_isFitting 186 = .ok (.aload_n 0, 1) := o_42 (u1_10 hc_X1_isFitting_176 rfl) rfl
theorem dX1_isFitting_187 : decode cX1_isFitting 187 = .ok (.getfield 43, 3) := o_180 (u1_11 hc_X1_isFitting_176 rfl) (u2_d (u1_12 hc_X1_isFitting_176 rfl) (u1_13 hc_X1_isFitting_176 rfl) rfl) rfl
theorem dX1_isFitting_190 : decode cX1_isFitting 190 = .ok (.iload_n 2, 1) := o_28 (u1_14 hc_X1_isFitting_176 rfl) rfl
theorem dX1_isFitting_191 : decode cX1_isFitting 191 = .ok (.iload_n 3, 1) := o_29 (u1_15 hc_X1_isFitting_176 rfl) rfl
theorem hc_X1_isFitting_192 : ((bL cX1_isFitting).drop 192).take 18 = [182, 0, 82, 167, 0, 30, 42, 180, 0, 43, 28, 182, 0, 79, 153, 0, 18, 42] := by decide +kernel
theorem dX1_isFitting_192 : decode cX1_isFitting 192 = .ok (.invokevirtual 82, 3) := o_182 (u1_0 hc_X1_isFitting_192 rfl) (u2_d (u1_1 hc_X1_isFitting_192 rfl) (u1_2 hc_X1_isFitting_192 rfl) rfl) rfl
theorem dX1_isFitting_195 : decode cX1_isFitting 195 = .ok (.goto 30, 3) := o_167 (u1_3 hc_X1_isFitting_192 rfl) (s2_d (u2_d (u1_4 hc_X1_isFitting_192 rfl) (u1_5 hc_X1_isFitting_192 rfl) rfl) rfl) rfl
theorem dX1_isFitting_198 : decode cX1_isFitting 198 = .ok (.aload_n 0, 1) := o_42 (u1_6 hc_X1_isFitting_192 rfl) rfl
theorem dX1_isFitting_199 : decode cX1_isFitting 199 = .ok (.getfield 43, 3) := o_180 (u1_7 hc_X1_isFitting_192 rfl) (u2_d (u1_8 hc_X1_isFitting_192 rfl) (u1_9 hc_X1_isFitting_192 rfl) rfl) rfl
theorem dX1_isFitting_202 : decode cX1_isFitting 202 = .ok (.iload_n 2, 1) := o_28 (u1_10 hc_X1_isFitting_192 rfl) rfl
theorem dX1_isFitting_203 : decode cX1_isFitting 203 = .ok (.invokevirtual 79, 3) := o_182 (u1_11 hc_X1_isFitting_192 rfl) (u2_d (u1_12 hc_X1_isFitting_192 rfl) (u1_13 hc_X1_isFitting_192 rfl) rfl) rfl
theorem dX1_isFitting_206 : decode cX1_isFitting 206 = .ok (.ifCond .eq 18, 3) := o_153 (u1_14 hc_X1_isFitting_192 rfl) (s2_d (u2_d (u1_15 hc_X1_isFitting_192 rfl) (u1_16 hc_X1_isFitting_192 rfl) rfl) rfl) rfl
theorem hc_X1_isFitting_208 : ((bL cX1_isFitting).drop 208).take 18 = [18, 42, 180, 0, 43, 29, 182, 0, 85, 153, 0, 7, 4, 167, 0, 4, 3, 172] := by decide +kernel
theorem dX1_isFitting_209 : decode cX1_isFitting 209 = .ok (.aload_n 0, 1) := o_42 (u1_1 hc_X1_isFitting_208 rfl) rfl
theorem dX1_isFitting_210 : decode cX1_isFitting 210 = .ok (.getfield 43, 3) := o_180 (u1_2 hc_X1_isFitting_208 rfl) (u2_d (u1_3 hc_X1_isFitting_208 rfl) (u1_4 hc_X1_isFitting_208 rfl) rfl) rfl
theorem dX1_isFitting_213 : decode cX1_isFitting 213 = .ok (.iload_n 3, 1) := o_29 (u1_5 hc_X1_isFitting_208 rfl) rfl
theorem dX1_isFitting_214 : decode cX1_isFitting 214 = .ok (.invokevirtual 85, 3) := o_182 (u1_6 hc_X1_isFitting_208 rfl) (u2_d (u1_7 hc_X1_isFitting_208 rfl) (u1_8 hc_X1_isFitting_208 rfl) rfl) rfl
theorem dX1_isFitting_217 : decode cX1_isFitting 217 = .ok (.ifCond .eq 7, 3) := o_153 (u1_9 hc_X1_isFitting_208 rfl) (s2_d (u2_d (u1_10 hc_X1_isFitting_208 rfl) (u1_11 hc_X1_isFitting_208 rfl) rfl) rfl) rfl
theorem dX1_isFitting_220 : decode cX1_isFitting 220 = .ok (.iconst 1, 1) := o_4 (u1_12 hc_X1_isFitting_208 rfl) rfl
theorem dX1_isFitting_221 : decode cX1_isFitting 221 = .ok (.goto 4, 3) := o_167 (u1_13 hc_X1_isFitting_208 rfl) (s2_d (u2_d (u1_14 hc_X1_isFitting_208 rfl) (u1_15 hc_X1_isFitting_208 rfl) rfl) rfl) rfl
theorem hc_X1_isFitting_224 : ((bL cX1_isFitting).drop 224).take 18 = [3, 172] := by decide +kernel
theorem dX1_isFitting_224 : decode cX1_isFitting 224 = .ok (.iconst 0, 1) := o_3 (u1_0 hc_X1_isFitting_224 rfl) rfl
theorem dX1_isFitting_225 : decode cX1_isFitting 225 = .ok (.ireturn, 1) := o_172 (u1_1 hc_X1_isFitting_224 rfl) rfl
theorem hc_X1_standingFor_0 : ((bL cX1_standingFor).drop 0).take 18 = [27, 170, 0, 0, 0, 0, 0, 65, 0, 0, 0, 5, 0, 0, 0, 7, 0, 0] := by decide +kernel
theorem dX1_standingFor_0 : decode cX1_standingFor 0 = .ok (.iload_n 1, 1) := o_27 (u1_0 hc_X1_standingFor_0 rfl) rfl
theorem dX1_standingFor_1 : decode cX1_standingFor 1 = .ok (.tableswitch 65 5 7 #[27, 42, 56], 27) := by decide +kernel
theorem hc_X1_standingFor_16 : ((bL cX1_standingFor).drop 16).take 18 = [0, 0, 0, 27, 0, 0, 0, 42, 0, 0, 0, 56, 42, 180, 0, 31, 28, 16] := by decide +kernel
theorem dX1_standingFor_28 : decode cX1_standingFor 28 = .ok (.aload_n 0, 1) := o_42 (u1_12 hc_X1_standingFor_16 rfl) rfl
theorem dX1_standingFor_29 : decode cX1_standingFor 29 = .ok (.getfield 31, 3) := o_180 (u1_13 hc_X1_standingFor_16 rfl) (u2_d (u1_14 hc_X1_standingFor_16 rfl) (u1_15 hc_X1_standingFor_16 rfl) rfl) rfl
theorem hc_X1_standingFor_32 : ((bL cX1_standingFor).drop 32).take 18 = [28, 16, 10, 104, 21, 4, 96, 46, 167, 0, 32, 42, 180, 0, 34, 28, 16, 6] := by decide +kernel
theorem dX1_standingFor_32 : decode cX1_standingFor 32 = .ok (.iload_n 2, 1) := o_28 (u1_0 hc_X1_standingFor_32 rfl) rfl
theorem dX1_standingFor_33 : decode cX1_standingFor 33 = .ok (.bipush 10, 2) := o_16 (u1_1 hc_X1_standingFor_32 rfl) (s1_d (u1_2 hc_X1_standingFor_32 rfl) rfl) rfl
theorem dX1_standingFor_35 : decode cX1_standingFor 35 = .ok (.imul, 1) := o_104 (u1_3 hc_X1_standingFor_32 rfl) rfl
theorem dX1_standingFor_36 : decode cX1_standingFor 36 = .ok (.iload 4, 2) := o_21 (u1_4 hc_X1_standingFor_32 rfl) (u1_5 hc_X1_standingFor_32 rfl) rfl
theorem dX1_standingFor_38 : decode cX1_standingFor 38 = .ok (.iadd, 1) := o_96 (u1_6 hc_X1_standingFor_32 rfl) rfl
theorem dX1_standingFor_39 : decode cX1_standingFor 39 = .ok (.iaload, 1) := o_46 (u1_7 hc_X1_standingFor_32 rfl) rfl
theorem dX1_standingFor_40 : decode cX1_standingFor 40 = .ok (.goto 32, 3) := o_167 (u1_8 hc_X1_standingFor_32 rfl) (s2_d (u2_d (u1_9 hc_X1_standingFor_32 rfl) (u1_10 hc_X1_standingFor_32 rfl) rfl) rfl) rfl
theorem dX1_standingFor_43 : decode cX1_standingFor 43 = .ok (.aload_n 0, 1) := o_42 (u1_11 hc_X1_standingFor_32 rfl) rfl
theorem dX1_standingFor_44 : decode cX1_standingFor 44 = .ok (.getfield 34, 3) := o_180 (u1_12 hc_X1_standingFor_32 rfl) (u2_d (u1_13 hc_X1_standingFor_32 rfl) (u1_14 hc_X1_standingFor_32 rfl) rfl) rfl
theorem dX1_standingFor_47 : decode cX1_standingFor 47 = .ok (.iload_n 2, 1) := o_28 (u1_15 hc_X1_standingFor_32 rfl) rfl
theorem hc_X1_standingFor_48 : ((bL cX1_standingFor).drop 48).take 18 = [16, 6, 104, 29, 96, 46, 167, 0, 18, 42, 180, 0, 37, 29, 46, 167, 0, 9] := by decide +kernel
theorem dX1_standingFor_48 : decode cX1_standingFor 48 = .ok (.bipush 6, 2) := o_16 (u1_0 hc_X1_standingFor_48 rfl) (s1_d (u1_1 hc_X1_standingFor_48 rfl) rfl) rfl
theorem dX1_standingFor_50 : decode cX1_standingFor 50 = .ok (.imul, 1) := o_104 (u1_2 hc_X1_standingFor_48 rfl) rfl
theorem dX1_standingFor_51 : decode cX1_standingFor 51 = .ok (.iload_n 3, 1) := o_29 (u1_3 hc_X1_standingFor_48 rfl) rfl
theorem dX1_standingFor_52 : decode cX1_standingFor 52 = .ok (.iadd, 1) := o_96 (u1_4 hc_X1_standingFor_48 rfl) rfl
theorem dX1_standingFor_53 : decode cX1_standingFor 53 = .ok (.iaload, 1) := o_46 (u1_5 hc_X1_standingFor_48 rfl) rfl
theorem dX1_standingFor_54 : decode cX1_standingFor 54 = .ok (.goto 18, 3) := o_167 (u1_6 hc_X1_standingFor_48 rfl) (s2_d (u2_d (u1_7 hc_X1_standingFor_48 rfl) (u1_8 hc_X1_standingFor_48 rfl) rfl) rfl) rfl
theorem dX1_standingFor_57 : decode cX1_standingFor 57 = .ok (.aload_n 0, 1) := o_42 (u1_9 hc_X1_standingFor_48 rfl) rfl
theorem dX1_standingFor_58 : decode cX1_standingFor 58 = .ok (.getfield 37, 3) := o_180 (u1_10 hc_X1_standingFor_48 rfl) (u2_d (u1_11 hc_X1_standingFor_48 rfl) (u1_12 hc_X1_standingFor_48 rfl) rfl) rfl
theorem dX1_standingFor_61 : decode cX1_standingFor 61 = .ok (.iload_n 3, 1) := o_29 (u1_13 hc_X1_standingFor_48 rfl) rfl
theorem dX1_standingFor_62 : decode cX1_standingFor 62 = .ok (.iaload, 1) := o_46 (u1_14 hc_X1_standingFor_48 rfl) rfl
theorem dX1_standingFor_63 : decode cX1_standingFor 63 = .ok (.goto 9, 3) := o_167 (u1_15 hc_X1_standingFor_48 rfl) (s2_d (u2_d (u1_16 hc_X1_standingFor_48 rfl) (u1_17 hc_X1_standingFor_48 rfl) rfl) rfl) rfl
theorem hc_X1_standingFor_64 : ((bL cX1_standingFor).drop 64).take 18 = [0, 9, 42, 180, 0, 28, 28, 46, 172] := by decide +kernel
theorem dX1_standingFor_66 : decode cX1_standingFor 66 = .ok (.aload_n 0, 1) := o_42 (u1_2 hc_X1_standingFor_64 rfl) rfl
theorem dX1_standingFor_67 : decode cX1_standingFor 67 = .ok (.getfield 28, 3) := o_180 (u1_3 hc_X1_standingFor_64 rfl) (u2_d (u1_4 hc_X1_standingFor_64 rfl) (u1_5 hc_X1_standingFor_64 rfl) rfl) rfl
theorem dX1_standingFor_70 : decode cX1_standingFor 70 = .ok (.iload_n 2, 1) := o_28 (u1_6 hc_X1_standingFor_64 rfl) rfl
theorem dX1_standingFor_71 : decode cX1_standingFor 71 = .ok (.iaload, 1) := o_46 (u1_7 hc_X1_standingFor_64 rfl) rfl
theorem dX1_standingFor_72 : decode cX1_standingFor 72 = .ok (.ireturn, 1) := o_172 (u1_8 hc_X1_standingFor_64 rfl) rfl
theorem hc_X1_findSame_0 : ((bL cX1_findSame).drop 0).take 18 = [42, 27, 28, 29, 21, 4, 182, 0, 88, 54, 5, 21, 5, 16, 247, 159, 0, 52] := by decide +kernel
theorem dX1_findSame_0 : decode cX1_findSame 0 = .ok (.aload_n 0, 1) := o_42 (u1_0 hc_X1_findSame_0 rfl) rfl
theorem dX1_findSame_1 : decode cX1_findSame 1 = .ok (.iload_n 1, 1) := o_27 (u1_1 hc_X1_findSame_0 rfl) rfl
theorem dX1_findSame_2 : decode cX1_findSame 2 = .ok (.iload_n 2, 1) := o_28 (u1_2 hc_X1_findSame_0 rfl) rfl
theorem dX1_findSame_3 : decode cX1_findSame 3 = .ok (.iload_n 3, 1) := o_29 (u1_3 hc_X1_findSame_0 rfl) rfl
theorem dX1_findSame_4 : decode cX1_findSame 4 = .ok (.iload 4, 2) := o_21 (u1_4 hc_X1_findSame_0 rfl) (u1_5 hc_X1_findSame_0 rfl) rfl
theorem dX1_findSame_6 : decode cX1_findSame 6 = .ok (.invokevirtual 88, 3) := o_182 (u1_6 hc_X1_findSame_0 rfl) (u2_d (u1_7 hc_X1_findSame_0 rfl) (u1_8 hc_X1_findSame_0 rfl) rfl) rfl
theorem dX1_findSame_9 : decode cX1_findSame 9 = .ok (.istore 5, 2) := o_54 (u1_9 hc_X1_findSame_0 rfl) (u1_10 hc_X1_findSame_0 rfl) rfl
theorem dX1_findSame_11 : decode cX1_findSame 11 = .ok (.iload 5, 2) := o_21 (u1_11 hc_X1_findSame_0 rfl) (u1_12 hc_X1_findSame_0 rfl) rfl
theorem dX1_findSame_13 : decode cX1_findSame 13 = .ok (.bipush (-9), 2) := o_16 (u1_13 hc_X1_findSame_0 rfl) (s1_d (u1_14 hc_X1_findSame_0 rfl) rfl) rfl
theorem dX1_findSame_15 : decode cX1_findSame 15 = .ok (.if_icmp .eq 52, 3) := o_159 (u1_15 hc_X1_findSame_0 rfl) (s2_d (u2_d (u1_16 hc_X1_findSame_0 rfl) (u1_17 hc_X1_findSame_0 rfl) rfl) rfl) rfl
theorem hc_X1_findSame_16 : ((bL cX1_findSame).drop 16).take 18 = [0, 52, 42, 180, 0, 9, 21, 5, 46, 27, 160, 0, 41, 42, 180, 0, 15, 21] := by decide +kernel
theorem dX1_findSame_18 : decode cX1_findSame 18 = .ok (.aload_n 0, 1) := o_42 (u1_2 hc_X1_findSame_16 rfl) rfl
theorem dX1_findSame_19 : decode cX1_findSame 19 = .ok (.getfield 9, 3) := o_180 (u1_3 hc_X1_findSame_16 rfl) (u2_d (u1_4 hc_X1_findSame_16 rfl) (u1_5 hc_X1_findSame_16 rfl) rfl) rfl
theorem dX1_findSame_22 : decode cX1_findSame 22 = .ok (.iload 5, 2) := o_21 (u1_6 hc_X1_findSame_16 rfl) (u1_7 hc_X1_findSame_16 rfl) rfl
theorem dX1_findSame_24 : decode cX1_findSame 24 = .ok (.iaload, 1) := o_46 (u1_8 hc_X1_findSame_16 rfl) rfl
theorem dX1_findSame_25 : decode cX1_findSame 25 = .ok (.iload_n 1, 1) := o_27 (u1_9 hc_X1_findSame_16 rfl) rfl
theorem dX1_findSame_26 : decode cX1_findSame 26 = .ok (.if_icmp .ne 41, 3) := o_160 (u1_10 hc_X1_findSame_16 rfl) (s2_d (u2_d (u1_11 hc_X1_findSame_16 rfl) (u1_12 hc_X1_findSame_16 rfl) rfl) rfl) rfl
theorem dX1_findSame_29 : decode cX1_findSame 29 = .ok (.aload_n 0, 1) := o_42 (u1_13 hc_X1_findSame_16 rfl) rfl
theorem dX1_findSame_30 : decode cX1_findSame 30 = .ok (.getfield 15, 3) := o_180 (u1_14 hc_X1_findSame_16 rfl) (u2_d (u1_15 hc_X1_findSame_16 rfl) (u1_16 hc_X1_findSame_16 rfl) rfl) rfl
theorem hc_X1_findSame_32 : ((bL cX1_findSame).drop 32).take 18 = [15, 21, 5, 46, 28, 160, 0, 30, 42, 180, 0, 18, 21, 5, 46, 29, 160, 0] := by decide +kernel
theorem dX1_findSame_33 : decode cX1_findSame 33 = .ok (.iload 5, 2) := o_21 (u1_1 hc_X1_findSame_32 rfl) (u1_2 hc_X1_findSame_32 rfl) rfl
theorem dX1_findSame_35 : decode cX1_findSame 35 = .ok (.iaload, 1) := o_46 (u1_3 hc_X1_findSame_32 rfl) rfl
theorem dX1_findSame_36 : decode cX1_findSame 36 = .ok (.iload_n 2, 1) := o_28 (u1_4 hc_X1_findSame_32 rfl) rfl
theorem dX1_findSame_37 : decode cX1_findSame 37 = .ok (.if_icmp .ne 30, 3) := o_160 (u1_5 hc_X1_findSame_32 rfl) (s2_d (u2_d (u1_6 hc_X1_findSame_32 rfl) (u1_7 hc_X1_findSame_32 rfl) rfl) rfl) rfl
theorem dX1_findSame_40 : decode cX1_findSame 40 = .ok (.aload_n 0, 1) := o_42 (u1_8 hc_X1_findSame_32 rfl) rfl
theorem dX1_findSame_41 : decode cX1_findSame 41 = .ok (.getfield 18, 3) := o_180 (u1_9 hc_X1_findSame_32 rfl) (u2_d (u1_10 hc_X1_findSame_32 rfl) (u1_11 hc_X1_findSame_32 rfl) rfl) rfl
theorem dX1_findSame_44 : decode cX1_findSame 44 = .ok (.iload 5, 2) := o_21 (u1_12 hc_X1_findSame_32 rfl) (u1_13 hc_X1_findSame_32 rfl) rfl
theorem dX1_findSame_46 : decode cX1_findSame 46 = .ok (.iaload, 1) := o_46 (u1_14 hc_X1_findSame_32 rfl) rfl
theorem dX1_findSame_47 : decode cX1_findSame 47 = .ok (.iload_n 3, 1) := o_29 (u1_15 hc_X1_findSame_32 rfl) rfl
theorem hc_X1_findSame_48 : ((bL cX1_findSame).drop 48).take 18 = [160, 0, 19, 42, 180, 0, 21, 21, 5, 46, 21, 4, 160, 0, 7, 4, 167, 0] := by decide +kernel
theorem dX1_findSame_48 : decode cX1_findSame 48 = .ok (.if_icmp .ne 19, 3) := o_160 (u1_0 hc_X1_findSame_48 rfl) (s2_d (u2_d (u1_1 hc_X1_findSame_48 rfl) (u1_2 hc_X1_findSame_48 rfl) rfl) rfl) rfl
theorem dX1_findSame_51 : decode cX1_findSame 51 = .ok (.aload_n 0, 1) := o_42 (u1_3 hc_X1_findSame_48 rfl) rfl
theorem dX1_findSame_52 : decode cX1_findSame 52 = .ok (.getfield 21, 3) := o_180 (u1_4 hc_X1_findSame_48 rfl) (u2_d (u1_5 hc_X1_findSame_48 rfl) (u1_6 hc_X1_findSame_48 rfl) rfl) rfl
theorem dX1_findSame_55 : decode cX1_findSame 55 = .ok (.iload 5, 2) := o_21 (u1_7 hc_X1_findSame_48 rfl) (u1_8 hc_X1_findSame_48 rfl) rfl
theorem dX1_findSame_57 : decode cX1_findSame 57 = .ok (.iaload, 1) := o_46 (u1_9 hc_X1_findSame_48 rfl) rfl
theorem dX1_findSame_58 : decode cX1_findSame 58 = .ok (.iload 4, 2) := o_21 (u1_10 hc_X1_findSame_48 rfl) (u1_11 hc_X1_findSame_48 rfl) rfl
theorem dX1_findSame_60 : decode cX1_findSame 60 = .ok (.if_icmp .ne 7, 3) := o_160 (u1_12 hc_X1_findSame_48 rfl) (s2_d (u2_d (u1_13 hc_X1_findSame_48 rfl) (u1_14 hc_X1_findSame_48 rfl) rfl) rfl) rfl
theorem dX1_findSame_63 : decode cX1_findSame 63 = .ok (.iconst 1, 1) := o_4 (u1_15 hc_X1_findSame_48 rfl) rfl
theorem hc_X1_findSame_64 : ((bL cX1_findSame).drop 64).take 18 = [167, 0, 4, 3, 54, 6, 21, 6, 153, 0, 8, 21, 5, 167, 0, 5, 16, 247] := by decide +kernel
theorem dX1_findSame_64 : decode cX1_findSame 64 = .ok (.goto 4, 3) := o_167 (u1_0 hc_X1_findSame_64 rfl) (s2_d (u2_d (u1_1 hc_X1_findSame_64 rfl) (u1_2 hc_X1_findSame_64 rfl) rfl) rfl) rfl
theorem dX1_findSame_67 : decode cX1_findSame 67 = .ok (.iconst 0, 1) := o_3 (u1_3 hc_X1_findSame_64 rfl) rfl
theorem dX1_findSame_68 : decode cX1_findSame 68 = .ok (.istore 6, 2) := o_54 (u1_4 hc_X1_findSame_64 rfl) (u1_5 hc_X1_findSame_64 rfl) rfl
theorem dX1_findSame_70 : decode cX1_findSame 70 = .ok (.iload 6, 2) := o_21 (u1_6 hc_X1_findSame_64 rfl) (u1_7 hc_X1_findSame_64 rfl) rfl
theorem dX1_findSame_72 : decode cX1_findSame 72 = .ok (.ifCond .eq 8, 3) := o_153 (u1_8 hc_X1_findSame_64 rfl) (s2_d (u2_d (u1_9 hc_X1_findSame_64 rfl) (u1_10 hc_X1_findSame_64 rfl) rfl) rfl) rfl
theorem dX1_findSame_75 : decode cX1_findSame 75 = .ok (.iload 5, 2) := o_21 (u1_11 hc_X1_findSame_64 rfl) (u1_12 hc_X1_findSame_64 rfl) rfl
theorem dX1_findSame_77 : decode cX1_findSame 77 = .ok (.goto 5, 3) := o_167 (u1_13 hc_X1_findSame_64 rfl) (s2_d (u2_d (u1_14 hc_X1_findSame_64 rfl) (u1_15 hc_X1_findSame_64 rfl) rfl) rfl) rfl
theorem hc_X1_findSame_80 : ((bL cX1_findSame).drop 80).take 18 = [16, 247, 172] := by decide +kernel
theorem dX1_findSame_80 : decode cX1_findSame 80 = .ok (.bipush (-9), 2) := o_16 (u1_0 hc_X1_findSame_80 rfl) (s1_d (u1_1 hc_X1_findSame_80 rfl) rfl) rfl
theorem dX1_findSame_82 : decode cX1_findSame 82 = .ok (.ireturn, 1) := o_172 (u1_2 hc_X1_findSame_80 rfl) rfl
theorem hc_X1_write_0 : ((bL cX1_write).drop 0).take 18 = [42, 89, 180, 0, 92, 90, 4, 96, 181, 0, 92, 54, 5, 42, 180, 0, 9, 21] := by decide +kernel
theorem dX1_write_0 : decode cX1_write 0 = .ok (.aload_n 0, 1) := o_42 (u1_0 hc_X1_write_0 rfl) rfl
theorem dX1_write_1 : decode cX1_write 1 = .ok (.dup, 1) := o_89 (u1_1 hc_X1_write_0 rfl) rfl
theorem dX1_write_2 : decode cX1_write 2 = .ok (.getfield 92, 3) := o_180 (u1_2 hc_X1_write_0 rfl) (u2_d (u1_3 hc_X1_write_0 rfl) (u1_4 hc_X1_write_0 rfl) rfl) rfl
theorem dX1_write_5 : decode cX1_write 5 = .ok (.dup_x1, 1) := o_90 (u1_5 hc_X1_write_0 rfl) rfl
theorem dX1_write_6 : decode cX1_write 6 = .ok (.iconst 1, 1) := o_4 (u1_6 hc_X1_write_0 rfl) rfl
theorem dX1_write_7 : decode cX1_write 7 = .ok (.iadd, 1) := o_96 (u1_7 hc_X1_write_0 rfl) rfl
theorem dX1_write_8 : decode cX1_write 8 = .ok (.putfield 92, 3) := o_181 (u1_8 hc_X1_write_0 rfl) (u2_d (u1_9 hc_X1_write_0 rfl) (u1_10 hc_X1_write_0 rfl) rfl) rfl
theorem dX1_write_11 : decode cX1_write 11 = .ok (.istore 5, 2) := o_54 (u1_11 hc_X1_write_0 rfl) (u1_12 hc_X1_write_0 rfl) rfl
theorem dX1_write_13 : decode cX1_write 13 = .ok (.aload_n 0, 1) := o_42 (u1_13 hc_X1_write_0 rfl) rfl
theorem dX1_write_14 : decode cX1_write 14 = .ok (.getfield 9, 3) := o_180 (u1_14 hc_X1_write_0 rfl) (u2_d (u1_15 hc_X1_write_0 rfl) (u1_16 hc_X1_write_0 rfl) rfl) rfl
theorem hc_X1_write_16 : ((bL cX1_write).drop 16).take 18 = [9, 21, 5, 27, 79, 42, 180, 0, 15, 21, 5, 28, 79, 42, 180, 0, 18, 21] := by decide +kernel
theorem dX1_write_17 : decode cX1_write 17 = .ok (.iload 5, 2) := o_21 (u1_1 hc_X1_write_16 rfl) (u1_2 hc_X1_write_16 rfl) rfl
theorem dX1_write_19 : decode cX1_write 19 = .ok (.iload_n 1, 1) := o_27 (u1_3 hc_X1_write_16 rfl) rfl
theorem dX1_write_20 : decode cX1_write 20 = .ok (.iastore, 1) := o_79 (u1_4 hc_X1_write_16 rfl) rfl
theorem dX1_write_21 : decode cX1_write 21 = .ok (.aload_n 0, 1) := o_42 (u1_5 hc_X1_write_16 rfl) rfl
theorem dX1_write_22 : decode cX1_write 22 = .ok (.getfield 15, 3) := o_180 (u1_6 hc_X1_write_16 rfl) (u2_d (u1_7 hc_X1_write_16 rfl) (u1_8 hc_X1_write_16 rfl) rfl) rfl
theorem dX1_write_25 : decode cX1_write 25 = .ok (.iload 5, 2) := o_21 (u1_9 hc_X1_write_16 rfl) (u1_10 hc_X1_write_16 rfl) rfl
theorem dX1_write_27 : decode cX1_write 27 = .ok (.iload_n 2, 1) := o_28 (u1_11 hc_X1_write_16 rfl) rfl
theorem dX1_write_28 : decode cX1_write 28 = .ok (.iastore, 1) := o_79 (u1_12 hc_X1_write_16 rfl) rfl
theorem dX1_write_29 : decode cX1_write 29 = .ok (.aload_n 0, 1) := o_42 (u1_13 hc_X1_write_16 rfl) rfl
theorem dX1_write_30 : decode cX1_write 30 = .ok (.getfield 18, 3) := o_180 (u1_14 hc_X1_write_16 rfl) (u2_d (u1_15 hc_X1_write_16 rfl) (u1_16 hc_X1_write_16 rfl) rfl) rfl
theorem hc_X1_write_32 : ((bL cX1_write).drop 32).take 18 = [18, 21, 5, 29, 79, 42, 180, 0, 21, 21, 5, 21, 4, 79, 42, 180, 0, 24] := by decide +kernel
theorem dX1_write_33 : decode cX1_write 33 = .ok (.iload 5, 2) := o_21 (u1_1 hc_X1_write_32 rfl) (u1_2 hc_X1_write_32 rfl) rfl
theorem dX1_write_35 : decode cX1_write 35 = .ok (.iload_n 3, 1) := o_29 (u1_3 hc_X1_write_32 rfl) rfl
theorem dX1_write_36 : decode cX1_write 36 = .ok (.iastore, 1) := o_79 (u1_4 hc_X1_write_32 rfl) rfl
theorem dX1_write_37 : decode cX1_write 37 = .ok (.aload_n 0, 1) := o_42 (u1_5 hc_X1_write_32 rfl) rfl
theorem dX1_write_38 : decode cX1_write 38 = .ok (.getfield 21, 3) := o_180 (u1_6 hc_X1_write_32 rfl) (u2_d (u1_7 hc_X1_write_32 rfl) (u1_8 hc_X1_write_32 rfl) rfl) rfl
theorem dX1_write_41 : decode cX1_write 41 = .ok (.iload 5, 2) := o_21 (u1_9 hc_X1_write_32 rfl) (u1_10 hc_X1_write_32 rfl) rfl
theorem dX1_write_43 : decode cX1_write 43 = .ok (.iload 4, 2) := o_21 (u1_11 hc_X1_write_32 rfl) (u1_12 hc_X1_write_32 rfl) rfl
theorem dX1_write_45 : decode cX1_write 45 = .ok (.iastore, 1) := o_79 (u1_13 hc_X1_write_32 rfl) rfl
theorem dX1_write_46 : decode cX1_write 46 = .ok (.aload_n 0, 1) := o_42 (u1_14 hc_X1_write_32 rfl) rfl
theorem dX1_write_47 : decode cX1_write 47 = .ok (.getfield 24, 3) := o_180 (u1_15 hc_X1_write_32 rfl) (u2_d (u1_16 hc_X1_write_32 rfl) (u1_17 hc_X1_write_32 rfl) rfl) rfl
theorem hc_X1_write_48 : ((bL cX1_write).drop 48).take 18 = [0, 24, 21, 5, 4, 84, 42, 89, 180, 0, 96, 4, 96, 181, 0, 96, 42, 21] := by decide +kernel
theorem dX1_write_50 : decode cX1_write 50 = .ok (.iload 5, 2) := o_21 (u1_2 hc_X1_write_48 rfl) (u1_3 hc_X1_write_48 rfl) rfl
theorem dX1_write_52 : decode cX1_write 52 = .ok (.iconst 1, 1) := o_4 (u1_4 hc_X1_write_48 rfl) rfl
theorem dX1_write_53 : decode cX1_write 53 = .ok (.bastore, 1) := o_84 (u1_5 hc_X1_write_48 rfl) rfl
theorem dX1_write_54 : decode cX1_write 54 = .ok (.aload_n 0, 1) := o_42 (u1_6 hc_X1_write_48 rfl) rfl
theorem dX1_write_55 : decode cX1_write 55 = .ok (.dup, 1) := o_89 (u1_7 hc_X1_write_48 rfl) rfl
theorem dX1_write_56 : decode cX1_write 56 = .ok (.getfield 96, 3) := o_180 (u1_8 hc_X1_write_48 rfl) (u2_d (u1_9 hc_X1_write_48 rfl) (u1_10 hc_X1_write_48 rfl) rfl) rfl
theorem dX1_write_59 : decode cX1_write 59 = .ok (.iconst 1, 1) := o_4 (u1_11 hc_X1_write_48 rfl) rfl
theorem dX1_write_60 : decode cX1_write 60 = .ok (.iadd, 1) := o_96 (u1_12 hc_X1_write_48 rfl) rfl
theorem dX1_write_61 : decode cX1_write 61 = .ok (.putfield 96, 3) := o_181 (u1_13 hc_X1_write_48 rfl) (u2_d (u1_14 hc_X1_write_48 rfl) (u1_15 hc_X1_write_48 rfl) rfl) rfl
theorem hc_X1_write_64 : ((bL cX1_write).drop 64).take 18 = [42, 21, 5, 21, 5, 182, 0, 99, 21, 5, 172] := by decide +kernel
theorem dX1_write_64 : decode cX1_write 64 = .ok (.aload_n 0, 1) := o_42 (u1_0 hc_X1_write_64 rfl) rfl
theorem dX1_write_65 : decode cX1_write 65 = .ok (.iload 5, 2) := o_21 (u1_1 hc_X1_write_64 rfl) (u1_2 hc_X1_write_64 rfl) rfl
theorem dX1_write_67 : decode cX1_write 67 = .ok (.iload 5, 2) := o_21 (u1_3 hc_X1_write_64 rfl) (u1_4 hc_X1_write_64 rfl) rfl
theorem dX1_write_69 : decode cX1_write 69 = .ok (.invokevirtual 99, 3) := o_182 (u1_5 hc_X1_write_64 rfl) (u2_d (u1_6 hc_X1_write_64 rfl) (u1_7 hc_X1_write_64 rfl) rfl) rfl
theorem dX1_write_72 : decode cX1_write 72 = .ok (.iload 5, 2) := o_21 (u1_8 hc_X1_write_64 rfl) (u1_9 hc_X1_write_64 rfl) rfl
theorem dX1_write_74 : decode cX1_write 74 = .ok (.ireturn, 1) := o_172 (u1_10 hc_X1_write_64 rfl) rfl
theorem hc_X1_strike_0 : ((bL cX1_strike).drop 0).take 18 = [42, 180, 0, 24, 27, 3, 84, 42, 89, 180, 0, 96, 4, 100, 181, 0, 96, 42] := by decide +kernel
theorem dX1_strike_0 : decode cX1_strike 0 = .ok (.aload_n 0, 1) := o_42 (u1_0 hc_X1_strike_0 rfl) rfl
theorem dX1_strike_1 : decode cX1_strike 1 = .ok (.getfield 24, 3) := o_180 (u1_1 hc_X1_strike_0 rfl) (u2_d (u1_2 hc_X1_strike_0 rfl) (u1_3 hc_X1_strike_0 rfl) rfl) rfl
theorem dX1_strike_4 : decode cX1_strike 4 = .ok (.iload_n 1, 1) := o_27 (u1_4 hc_X1_strike_0 rfl) rfl
theorem dX1_strike_5 : decode cX1_strike 5 = .ok (.iconst 0, 1) := o_3 (u1_5 hc_X1_strike_0 rfl) rfl
theorem dX1_strike_6 : decode cX1_strike 6 = .ok (.bastore, 1) := o_84 (u1_6 hc_X1_strike_0 rfl) rfl
theorem dX1_strike_7 : decode cX1_strike 7 = .ok (.aload_n 0, 1) := o_42 (u1_7 hc_X1_strike_0 rfl) rfl
theorem dX1_strike_8 : decode cX1_strike 8 = .ok (.dup, 1) := o_89 (u1_8 hc_X1_strike_0 rfl) rfl
theorem dX1_strike_9 : decode cX1_strike 9 = .ok (.getfield 96, 3) := o_180 (u1_9 hc_X1_strike_0 rfl) (u2_d (u1_10 hc_X1_strike_0 rfl) (u1_11 hc_X1_strike_0 rfl) rfl) rfl
theorem dX1_strike_12 : decode cX1_strike 12 = .ok (.iconst 1, 1) := o_4 (u1_12 hc_X1_strike_0 rfl) rfl
theorem dX1_strike_13 : decode cX1_strike 13 = .ok (.isub, 1) := o_100 (u1_13 hc_X1_strike_0 rfl) rfl
theorem dX1_strike_14 : decode cX1_strike 14 = .ok (.putfield 96, 3) := o_181 (u1_14 hc_X1_strike_0 rfl) (u2_d (u1_15 hc_X1_strike_0 rfl) (u1_16 hc_X1_strike_0 rfl) rfl) rfl
theorem hc_X1_strike_16 : ((bL cX1_strike).drop 16).take 18 = [96, 42, 27, 16, 247, 182, 0, 99, 177] := by decide +kernel
theorem dX1_strike_17 : decode cX1_strike 17 = .ok (.aload_n 0, 1) := o_42 (u1_1 hc_X1_strike_16 rfl) rfl
theorem dX1_strike_18 : decode cX1_strike 18 = .ok (.iload_n 1, 1) := o_27 (u1_2 hc_X1_strike_16 rfl) rfl
theorem dX1_strike_19 : decode cX1_strike 19 = .ok (.bipush (-9), 2) := o_16 (u1_3 hc_X1_strike_16 rfl) (s1_d (u1_4 hc_X1_strike_16 rfl) rfl) rfl
theorem dX1_strike_21 : decode cX1_strike 21 = .ok (.invokevirtual 99, 3) := o_182 (u1_5 hc_X1_strike_16 rfl) (u2_d (u1_6 hc_X1_strike_16 rfl) (u1_7 hc_X1_strike_16 rfl) rfl) rfl
theorem dX1_strike_24 : decode cX1_strike 24 = .ok (.return_, 1) := o_177 (u1_8 hc_X1_strike_16 rfl) rfl
theorem hc_X1_point_0 : ((bL cX1_point).drop 0).take 18 = [42, 180, 0, 15, 27, 46, 62, 42, 180, 0, 9, 27, 46, 170, 0, 0, 0, 0] := by decide +kernel
theorem dX1_point_0 : decode cX1_point 0 = .ok (.aload_n 0, 1) := o_42 (u1_0 hc_X1_point_0 rfl) rfl
theorem dX1_point_1 : decode cX1_point 1 = .ok (.getfield 15, 3) := o_180 (u1_1 hc_X1_point_0 rfl) (u2_d (u1_2 hc_X1_point_0 rfl) (u1_3 hc_X1_point_0 rfl) rfl) rfl
theorem dX1_point_4 : decode cX1_point 4 = .ok (.iload_n 1, 1) := o_27 (u1_4 hc_X1_point_0 rfl) rfl
theorem dX1_point_5 : decode cX1_point 5 = .ok (.iaload, 1) := o_46 (u1_5 hc_X1_point_0 rfl) rfl
theorem dX1_point_6 : decode cX1_point 6 = .ok (.istore_n 3, 1) := o_62 (u1_6 hc_X1_point_0 rfl) rfl
theorem dX1_point_7 : decode cX1_point 7 = .ok (.aload_n 0, 1) := o_42 (u1_7 hc_X1_point_0 rfl) rfl
theorem dX1_point_8 : decode cX1_point 8 = .ok (.getfield 9, 3) := o_180 (u1_8 hc_X1_point_0 rfl) (u2_d (u1_9 hc_X1_point_0 rfl) (u1_10 hc_X1_point_0 rfl) rfl) rfl
theorem dX1_point_11 : decode cX1_point 11 = .ok (.iload_n 1, 1) := o_27 (u1_11 hc_X1_point_0 rfl) rfl
theorem dX1_point_12 : decode cX1_point 12 = .ok (.iaload, 1) := o_46 (u1_12 hc_X1_point_0 rfl) rfl
theorem dX1_point_13 : decode cX1_point 13 = .ok (.tableswitch 82 5 7 #[27, 47, 67], 27) := by decide +kernel
theorem hc_X1_point_32 : ((bL cX1_point).drop 32).take 18 = [0, 0, 0, 47, 0, 0, 0, 67, 42, 180, 0, 31, 29, 16, 10, 104, 42, 180] := by decide +kernel
theorem dX1_point_40 : decode cX1_point 40 = .ok (.aload_n 0, 1) := o_42 (u1_8 hc_X1_point_32 rfl) rfl
theorem dX1_point_41 : decode cX1_point 41 = .ok (.getfield 31, 3) := o_180 (u1_9 hc_X1_point_32 rfl) (u2_d (u1_10 hc_X1_point_32 rfl) (u1_11 hc_X1_point_32 rfl) rfl) rfl
theorem dX1_point_44 : decode cX1_point 44 = .ok (.iload_n 3, 1) := o_29 (u1_12 hc_X1_point_32 rfl) rfl
theorem dX1_point_45 : decode cX1_point 45 = .ok (.bipush 10, 2) := o_16 (u1_13 hc_X1_point_32 rfl) (s1_d (u1_14 hc_X1_point_32 rfl) rfl) rfl
theorem dX1_point_47 : decode cX1_point 47 = .ok (.imul, 1) := o_104 (u1_15 hc_X1_point_32 rfl) rfl
theorem hc_X1_point_48 : ((bL cX1_point).drop 48).take 18 = [42, 180, 0, 21, 27, 46, 96, 28, 79, 167, 0, 82, 42, 180, 0, 34, 29, 16] := by decide +kernel
theorem dX1_point_48 : decode cX1_point 48 = .ok (.aload_n 0, 1) := o_42 (u1_0 hc_X1_point_48 rfl) rfl
theorem dX1_point_49 : decode cX1_point 49 = .ok (.getfield 21, 3) := o_180 (u1_1 hc_X1_point_48 rfl) (u2_d (u1_2 hc_X1_point_48 rfl) (u1_3 hc_X1_point_48 rfl) rfl) rfl
theorem dX1_point_52 : decode cX1_point 52 = .ok (.iload_n 1, 1) := o_27 (u1_4 hc_X1_point_48 rfl) rfl
theorem dX1_point_53 : decode cX1_point 53 = .ok (.iaload, 1) := o_46 (u1_5 hc_X1_point_48 rfl) rfl
theorem dX1_point_54 : decode cX1_point 54 = .ok (.iadd, 1) := o_96 (u1_6 hc_X1_point_48 rfl) rfl
theorem dX1_point_55 : decode cX1_point 55 = .ok (.iload_n 2, 1) := o_28 (u1_7 hc_X1_point_48 rfl) rfl
theorem dX1_point_56 : decode cX1_point 56 = .ok (.iastore, 1) := o_79 (u1_8 hc_X1_point_48 rfl) rfl
theorem dX1_point_57 : decode cX1_point 57 = .ok (.goto 82, 3) := o_167 (u1_9 hc_X1_point_48 rfl) (s2_d (u2_d (u1_10 hc_X1_point_48 rfl) (u1_11 hc_X1_point_48 rfl) rfl) rfl) rfl
theorem dX1_point_60 : decode cX1_point 60 = .ok (.aload_n 0, 1) := o_42 (u1_12 hc_X1_point_48 rfl) rfl
theorem dX1_point_61 : decode cX1_point 61 = .ok (.getfield 34, 3) := o_180 (u1_13 hc_X1_point_48 rfl) (u2_d (u1_14 hc_X1_point_48 rfl) (u1_15 hc_X1_point_48 rfl) rfl) rfl
theorem hc_X1_point_64 : ((bL cX1_point).drop 64).take 18 = [29, 16, 6, 104, 42, 180, 0, 18, 27, 46, 96, 28, 79, 167, 0, 62, 42, 180] := by decide +kernel
theorem dX1_point_64 : decode cX1_point 64 = .ok (.iload_n 3, 1) := o_29 (u1_0 hc_X1_point_64 rfl) rfl
theorem dX1_point_65 : decode cX1_point 65 = .ok (.bipush 6, 2) := o_16 (u1_1 hc_X1_point_64 rfl) (s1_d (u1_2 hc_X1_point_64 rfl) rfl) rfl
theorem dX1_point_67 : decode cX1_point 67 = .ok (.imul, 1) := o_104 (u1_3 hc_X1_point_64 rfl) rfl
theorem dX1_point_68 : decode cX1_point 68 = .ok (.aload_n 0, 1) := o_42 (u1_4 hc_X1_point_64 rfl) rfl
theorem dX1_point_69 : decode cX1_point 69 = .ok (.getfield 18, 3) := o_180 (u1_5 hc_X1_point_64 rfl) (u2_d (u1_6 hc_X1_point_64 rfl) (u1_7 hc_X1_point_64 rfl) rfl) rfl
theorem dX1_point_72 : decode cX1_point 72 = .ok (.iload_n 1, 1) := o_27 (u1_8 hc_X1_point_64 rfl) rfl
theorem dX1_point_73 : decode cX1_point 73 = .ok (.iaload, 1) := o_46 (u1_9 hc_X1_point_64 rfl) rfl
theorem dX1_point_74 : decode cX1_point 74 = .ok (.iadd, 1) := o_96 (u1_10 hc_X1_point_64 rfl) rfl
theorem dX1_point_75 : decode cX1_point 75 = .ok (.iload_n 2, 1) := o_28 (u1_11 hc_X1_point_64 rfl) rfl
theorem dX1_point_76 : decode cX1_point 76 = .ok (.iastore, 1) := o_79 (u1_12 hc_X1_point_64 rfl) rfl
theorem dX1_point_77 : decode cX1_point 77 = .ok (.goto 62, 3) := o_167 (u1_13 hc_X1_point_64 rfl) (s2_d (u2_d (u1_14 hc_X1_point_64 rfl) (u1_15 hc_X1_point_64 rfl) rfl) rfl) rfl
theorem hc_X1_point_80 : ((bL cX1_point).drop 80).take 18 = [42, 180, 0, 37, 42, 180, 0, 18, 27, 46, 28, 79, 167, 0, 47, 42, 180, 0] := by decide +kernel
theorem dX1_point_80 : decode cX1_point 80 = .ok (.aload_n 0, 1) := o_42 (u1_0 hc_X1_point_80 rfl) rfl
theorem dX1_point_81 : decode cX1_point 81 = .ok (.getfield 37, 3) := o_180 (u1_1 hc_X1_point_80 rfl) (u2_d (u1_2 hc_X1_point_80 rfl) (u1_3 hc_X1_point_80 rfl) rfl) rfl
theorem dX1_point_84 : decode cX1_point 84 = .ok (.aload_n 0, 1) := o_42 (u1_4 hc_X1_point_80 rfl) rfl
theorem dX1_point_85 : decode cX1_point 85 = .ok (.getfield 18, 3) := o_180 (u1_5 hc_X1_point_80 rfl) (u2_d (u1_6 hc_X1_point_80 rfl) (u1_7 hc_X1_point_80 rfl) rfl) rfl
theorem dX1_point_88 : decode cX1_point 88 = .ok (.iload_n 1, 1) := o_27 (u1_8 hc_X1_point_80 rfl) rfl
theorem dX1_point_89 : decode cX1_point 89 = .ok (.iaload, 1) := o_46 (u1_9 hc_X1_point_80 rfl) rfl
theorem dX1_point_90 : decode cX1_point 90 = .ok (.iload_n 2, 1) := o_28 (u1_10 hc_X1_point_80 rfl) rfl
theorem dX1_point_91 : decode cX1_point 91 = .ok (.iastore, 1) := o_79 (u1_11 hc_X1_point_80 rfl) rfl
theorem dX1_point_92 : decode cX1_point 92 = .ok (.goto 47, 3) := o_167 (u1_12 hc_X1_point_80 rfl) (s2_d (u2_d (u1_13 hc_X1_point_80 rfl) (u1_14 hc_X1_point_80 rfl) rfl) rfl) rfl
theorem dX1_point_95 : decode cX1_point 95 = .ok (.aload_n 0, 1) := o_42 (u1_15 hc_X1_point_80 rfl) rfl
theorem hc_X1_point_96 : ((bL cX1_point).drop 96).take 18 = [180, 0, 28, 29, 28, 79, 42, 180, 0, 52, 180, 0, 103, 29, 28, 16, 247, 160] := by decide +kernel
theorem dX1_point_96 : decode cX1_point 96 = .ok (.getfield 28, 3) := o_180 (u1_0 hc_X1_point_96 rfl) (u2_d (u1_1 hc_X1_point_96 rfl) (u1_2 hc_X1_point_96 rfl) rfl) rfl
theorem dX1_point_99 : decode cX1_point 99 = .ok (.iload_n 3, 1) := o_29 (u1_3 hc_X1_point_96 rfl) rfl
theorem dX1_point_100 : decode cX1_point 100 = .ok (.iload_n 2, 1) := o_28 (u1_4 hc_X1_point_96 rfl) rfl
theorem dX1_point_101 : decode cX1_point 101 = .ok (.iastore, 1) := o_79 (u1_5 hc_X1_point_96 rfl) rfl
theorem dX1_point_102 : decode cX1_point 102 = .ok (.aload_n 0, 1) := o_42 (u1_6 hc_X1_point_96 rfl) rfl
theorem dX1_point_103 : decode cX1_point 103 = .ok (.getfield 52, 3) := o_180 (u1_7 hc_X1_point_96 rfl) (u2_d (u1_8 hc_X1_point_96 rfl) (u1_9 hc_X1_point_96 rfl) rfl) rfl
theorem dX1_point_106 : decode cX1_point 106 = .ok (.getfield 103, 3) := o_180 (u1_10 hc_X1_point_96 rfl) (u2_d (u1_11 hc_X1_point_96 rfl) (u1_12 hc_X1_point_96 rfl) rfl) rfl
theorem dX1_point_109 : decode cX1_point 109 = .ok (.iload_n 3, 1) := o_29 (u1_13 hc_X1_point_96 rfl) rfl
theorem dX1_point_110 : decode cX1_point 110 = .ok (.iload_n 2, 1) := o_28 (u1_14 hc_X1_point_96 rfl) rfl
theorem dX1_point_111 : decode cX1_point 111 = .ok (.bipush (-9), 2) := o_16 (u1_15 hc_X1_point_96 rfl) (s1_d (u1_16 hc_X1_point_96 rfl) rfl) rfl
theorem hc_X1_point_112 : ((bL cX1_point).drop 112).take 18 = [247, 160, 0, 9, 17, 0, 255, 167, 0, 19, 3, 42, 180, 0, 9, 27, 46, 42] := by decide +kernel
theorem dX1_point_113 : decode cX1_point 113 = .ok (.if_icmp .ne 9, 3) := o_160 (u1_1 hc_X1_point_112 rfl) (s2_d (u2_d (u1_2 hc_X1_point_112 rfl) (u1_3 hc_X1_point_112 rfl) rfl) rfl) rfl
theorem dX1_point_116 : decode cX1_point 116 = .ok (.sipush 255, 3) := o_17 (u1_4 hc_X1_point_112 rfl) (s2_d (u2_d (u1_5 hc_X1_point_112 rfl) (u1_6 hc_X1_point_112 rfl) rfl) rfl) rfl
theorem dX1_point_119 : decode cX1_point 119 = .ok (.goto 19, 3) := o_167 (u1_7 hc_X1_point_112 rfl) (s2_d (u2_d (u1_8 hc_X1_point_112 rfl) (u1_9 hc_X1_point_112 rfl) rfl) rfl) rfl
theorem dX1_point_122 : decode cX1_point 122 = .ok (.iconst 0, 1) := o_3 (u1_10 hc_X1_point_112 rfl) rfl
theorem dX1_point_123 : decode cX1_point 123 = .ok (.aload_n 0, 1) := o_42 (u1_11 hc_X1_point_112 rfl) rfl
theorem dX1_point_124 : decode cX1_point 124 = .ok (.getfield 9, 3) := o_180 (u1_12 hc_X1_point_112 rfl) (u2_d (u1_13 hc_X1_point_112 rfl) (u1_14 hc_X1_point_112 rfl) rfl) rfl
theorem dX1_point_127 : decode cX1_point 127 = .ok (.iload_n 1, 1) := o_27 (u1_15 hc_X1_point_112 rfl) rfl
theorem hc_X1_point_128 : ((bL cX1_point).drop 128).take 18 = [46, 42, 180, 0, 18, 27, 46, 184, 0, 106, 79, 177] := by decide +kernel
theorem dX1_point_128 : decode cX1_point 128 = .ok (.iaload, 1) := o_46 (u1_0 hc_X1_point_128 rfl) rfl
theorem dX1_point_129 : decode cX1_point 129 = .ok (.aload_n 0, 1) := o_42 (u1_1 hc_X1_point_128 rfl) rfl
theorem dX1_point_130 : decode cX1_point 130 = .ok (.getfield 18, 3) := o_180 (u1_2 hc_X1_point_128 rfl) (u2_d (u1_3 hc_X1_point_128 rfl) (u1_4 hc_X1_point_128 rfl) rfl) rfl
theorem dX1_point_133 : decode cX1_point 133 = .ok (.iload_n 1, 1) := o_27 (u1_5 hc_X1_point_128 rfl) rfl
theorem dX1_point_134 : decode cX1_point 134 = .ok (.iaload, 1) := o_46 (u1_6 hc_X1_point_128 rfl) rfl
theorem dX1_point_135 : decode cX1_point 135 = .ok (.invokestatic 106, 3) := o_184 (u1_7 hc_X1_point_128 rfl) (u2_d (u1_8 hc_X1_point_128 rfl) (u1_9 hc_X1_point_128 rfl) rfl) rfl
theorem dX1_point_138 : decode cX1_point 138 = .ok (.iastore, 1) := o_79 (u1_10 hc_X1_point_128 rfl) rfl
theorem dX1_point_139 : decode cX1_point 139 = .ok (.return_, 1) := o_177 (u1_11 hc_X1_point_128 rfl) rfl
theorem hc_X1_part_0 : ((bL cX1_part).drop 0).take 18 = [28, 170, 0, 0, 0, 0, 0, 67, 0, 0, 0, 0, 0, 0, 0, 3, 0, 0] := by decide +kernel
theorem dX1_part_0 : decode cX1_part 0 = .ok (.iload_n 2, 1) := o_28 (u1_0 hc_X1_part_0 rfl) rfl
theorem dX1_part_1 : decode cX1_part 1 = .ok (.tableswitch 67 0 3 #[31, 40, 49, 58], 31) := by decide +kernel
theorem hc_X1_part_32 : ((bL cX1_part).drop 32).take 18 = [42, 180, 0, 9, 27, 46, 167, 0, 39, 42, 180, 0, 15, 27, 46, 167, 0, 30] := by decide +kernel
theorem dX1_part_32 : decode cX1_part 32 = .ok (.aload_n 0, 1) := o_42 (u1_0 hc_X1_part_32 rfl) rfl
theorem dX1_part_33 : decode cX1_part 33 = .ok (.getfield 9, 3) := o_180 (u1_1 hc_X1_part_32 rfl) (u2_d (u1_2 hc_X1_part_32 rfl) (u1_3 hc_X1_part_32 rfl) rfl) rfl
theorem dX1_part_36 : decode cX1_part 36 = .ok (.iload_n 1, 1) := o_27 (u1_4 hc_X1_part_32 rfl) rfl
theorem dX1_part_37 : decode cX1_part 37 = .ok (.iaload, 1) := o_46 (u1_5 hc_X1_part_32 rfl) rfl
theorem dX1_part_38 : decode cX1_part 38 = .ok (.goto 39, 3) := o_167 (u1_6 hc_X1_part_32 rfl) (s2_d (u2_d (u1_7 hc_X1_part_32 rfl) (u1_8 hc_X1_part_32 rfl) rfl) rfl) rfl
theorem dX1_part_41 : decode cX1_part 41 = .ok (.aload_n 0, 1) := o_42 (u1_9 hc_X1_part_32 rfl) rfl
theorem dX1_part_42 : decode cX1_part 42 = .ok (.getfield 15, 3) := o_180 (u1_10 hc_X1_part_32 rfl) (u2_d (u1_11 hc_X1_part_32 rfl) (u1_12 hc_X1_part_32 rfl) rfl) rfl
theorem dX1_part_45 : decode cX1_part 45 = .ok (.iload_n 1, 1) := o_27 (u1_13 hc_X1_part_32 rfl) rfl
theorem dX1_part_46 : decode cX1_part 46 = .ok (.iaload, 1) := o_46 (u1_14 hc_X1_part_32 rfl) rfl
theorem dX1_part_47 : decode cX1_part 47 = .ok (.goto 30, 3) := o_167 (u1_15 hc_X1_part_32 rfl) (s2_d (u2_d (u1_16 hc_X1_part_32 rfl) (u1_17 hc_X1_part_32 rfl) rfl) rfl) rfl
theorem hc_X1_part_48 : ((bL cX1_part).drop 48).take 18 = [0, 30, 42, 180, 0, 18, 27, 46, 167, 0, 21, 42, 180, 0, 21, 27, 46, 167] := by decide +kernel
theorem dX1_part_50 : decode cX1_part 50 = .ok (.aload_n 0, 1) := o_42 (u1_2 hc_X1_part_48 rfl) rfl
theorem dX1_part_51 : decode cX1_part 51 = .ok (.getfield 18, 3) := o_180 (u1_3 hc_X1_part_48 rfl) (u2_d (u1_4 hc_X1_part_48 rfl) (u1_5 hc_X1_part_48 rfl) rfl) rfl
theorem dX1_part_54 : decode cX1_part 54 = .ok (.iload_n 1, 1) := o_27 (u1_6 hc_X1_part_48 rfl) rfl
theorem dX1_part_55 : decode cX1_part 55 = .ok (.iaload, 1) := o_46 (u1_7 hc_X1_part_48 rfl) rfl
theorem dX1_part_56 : decode cX1_part 56 = .ok (.goto 21, 3) := o_167 (u1_8 hc_X1_part_48 rfl) (s2_d (u2_d (u1_9 hc_X1_part_48 rfl) (u1_10 hc_X1_part_48 rfl) rfl) rfl) rfl
theorem dX1_part_59 : decode cX1_part 59 = .ok (.aload_n 0, 1) := o_42 (u1_11 hc_X1_part_48 rfl) rfl
theorem dX1_part_60 : decode cX1_part 60 = .ok (.getfield 21, 3) := o_180 (u1_12 hc_X1_part_48 rfl) (u2_d (u1_13 hc_X1_part_48 rfl) (u1_14 hc_X1_part_48 rfl) rfl) rfl
theorem dX1_part_63 : decode cX1_part 63 = .ok (.iload_n 1, 1) := o_27 (u1_15 hc_X1_part_48 rfl) rfl
theorem hc_X1_part_64 : ((bL cX1_part).drop 64).take 18 = [46, 167, 0, 12, 42, 180, 0, 24, 27, 51, 184, 0, 110, 172] := by decide +kernel
theorem dX1_part_64 : decode cX1_part 64 = .ok (.iaload, 1) := o_46 (u1_0 hc_X1_part_64 rfl) rfl
theorem dX1_part_65 : decode cX1_part 65 = .ok (.goto 12, 3) := o_167 (u1_1 hc_X1_part_64 rfl) (s2_d (u2_d (u1_2 hc_X1_part_64 rfl) (u1_3 hc_X1_part_64 rfl) rfl) rfl) rfl
theorem dX1_part_68 : decode cX1_part 68 = .ok (.aload_n 0, 1) := o_42 (u1_4 hc_X1_part_64 rfl) rfl
theorem dX1_part_69 : decode cX1_part 69 = .ok (.getfield 24, 3) := o_180 (u1_5 hc_X1_part_64 rfl) (u2_d (u1_6 hc_X1_part_64 rfl) (u1_7 hc_X1_part_64 rfl) rfl) rfl
theorem dX1_part_72 : decode cX1_part 72 = .ok (.iload_n 1, 1) := o_27 (u1_8 hc_X1_part_64 rfl) rfl
theorem dX1_part_73 : decode cX1_part 73 = .ok (.baload, 1) := o_51 (u1_9 hc_X1_part_64 rfl) rfl
theorem dX1_part_74 : decode cX1_part 74 = .ok (.invokestatic 110, 3) := o_184 (u1_10 hc_X1_part_64 rfl) (u2_d (u1_11 hc_X1_part_64 rfl) (u1_12 hc_X1_part_64 rfl) rfl) rfl
theorem dX1_part_77 : decode cX1_part 77 = .ok (.ireturn, 1) := o_172 (u1_13 hc_X1_part_64 rfl) rfl
theorem hc_X1_saidFlag_0 : ((bL cX1_saidFlag).drop 0).take 18 = [42, 180, 0, 34, 27, 16, 6, 104, 28, 96, 46, 62, 29, 16, 247, 160, 0, 15] := by decide +kernel
theorem dX1_saidFlag_0 : decode cX1_saidFlag 0 = .ok (.aload_n 0, 1) := o_42 (u1_0 hc_X1_saidFlag_0 rfl) rfl
theorem dX1_saidFlag_1 : decode cX1_saidFlag 1 = .ok (.getfield 34, 3) := o_180 (u1_1 hc_X1_saidFlag_0 rfl) (u2_d (u1_2 hc_X1_saidFlag_0 rfl) (u1_3 hc_X1_saidFlag_0 rfl) rfl) rfl
theorem dX1_saidFlag_4 : decode cX1_saidFlag 4 = .ok (.iload_n 1, 1) := o_27 (u1_4 hc_X1_saidFlag_0 rfl) rfl
theorem dX1_saidFlag_5 : decode cX1_saidFlag 5 = .ok (.bipush 6, 2) := o_16 (u1_5 hc_X1_saidFlag_0 rfl) (s1_d (u1_6 hc_X1_saidFlag_0 rfl) rfl) rfl
theorem dX1_saidFlag_7 : decode cX1_saidFlag 7 = .ok (.imul, 1) := o_104 (u1_7 hc_X1_saidFlag_0 rfl) rfl
theorem dX1_saidFlag_8 : decode cX1_saidFlag 8 = .ok (.iload_n 2, 1) := o_28 (u1_8 hc_X1_saidFlag_0 rfl) rfl
theorem dX1_saidFlag_9 : decode cX1_saidFlag 9 = .ok (.iadd, 1) := o_96 (u1_9 hc_X1_saidFlag_0 rfl) rfl
theorem dX1_saidFlag_10 : decode cX1_saidFlag 10 = .ok (.iaload, 1) := o_46 (u1_10 hc_X1_saidFlag_0 rfl) rfl
theorem dX1_saidFlag_11 : decode cX1_saidFlag 11 = .ok (.istore_n 3, 1) := o_62 (u1_11 hc_X1_saidFlag_0 rfl) rfl
theorem dX1_saidFlag_12 : decode cX1_saidFlag 12 = .ok (.iload_n 3, 1) := o_29 (u1_12 hc_X1_saidFlag_0 rfl) rfl
theorem dX1_saidFlag_13 : decode cX1_saidFlag 13 = .ok (.bipush (-9), 2) := o_16 (u1_13 hc_X1_saidFlag_0 rfl) (s1_d (u1_14 hc_X1_saidFlag_0 rfl) rfl) rfl
theorem dX1_saidFlag_15 : decode cX1_saidFlag 15 = .ok (.if_icmp .ne 15, 3) := o_160 (u1_15 hc_X1_saidFlag_0 rfl) (s2_d (u2_d (u1_16 hc_X1_saidFlag_0 rfl) (u1_17 hc_X1_saidFlag_0 rfl) rfl) rfl) rfl
theorem hc_X1_saidFlag_16 : ((bL cX1_saidFlag).drop 16).take 18 = [0, 15, 42, 180, 0, 43, 27, 28, 182, 0, 114, 167, 0, 9, 42, 180, 0, 21] := by decide +kernel
theorem dX1_saidFlag_18 : decode cX1_saidFlag 18 = .ok (.aload_n 0, 1) := o_42 (u1_2 hc_X1_saidFlag_16 rfl) rfl
theorem dX1_saidFlag_19 : decode cX1_saidFlag 19 = .ok (.getfield 43, 3) := o_180 (u1_3 hc_X1_saidFlag_16 rfl) (u2_d (u1_4 hc_X1_saidFlag_16 rfl) (u1_5 hc_X1_saidFlag_16 rfl) rfl) rfl
theorem dX1_saidFlag_22 : decode cX1_saidFlag 22 = .ok (.iload_n 1, 1) := o_27 (u1_6 hc_X1_saidFlag_16 rfl) rfl
theorem dX1_saidFlag_23 : decode cX1_saidFlag 23 = .ok (.iload_n 2, 1) := o_28 (u1_7 hc_X1_saidFlag_16 rfl) rfl
theorem dX1_saidFlag_24 : decode cX1_saidFlag 24 = .ok (.invokevirtual 114, 3) := o_182 (u1_8 hc_X1_saidFlag_16 rfl) (u2_d (u1_9 hc_X1_saidFlag_16 rfl) (u1_10 hc_X1_saidFlag_16 rfl) rfl) rfl
theorem dX1_saidFlag_27 : decode cX1_saidFlag 27 = .ok (.goto 9, 3) := o_167 (u1_11 hc_X1_saidFlag_16 rfl) (s2_d (u2_d (u1_12 hc_X1_saidFlag_16 rfl) (u1_13 hc_X1_saidFlag_16 rfl) rfl) rfl) rfl
theorem dX1_saidFlag_30 : decode cX1_saidFlag 30 = .ok (.aload_n 0, 1) := o_42 (u1_14 hc_X1_saidFlag_16 rfl) rfl
theorem dX1_saidFlag_31 : decode cX1_saidFlag 31 = .ok (.getfield 21, 3) := o_180 (u1_15 hc_X1_saidFlag_16 rfl) (u2_d (u1_16 hc_X1_saidFlag_16 rfl) (u1_17 hc_X1_saidFlag_16 rfl) rfl) rfl
theorem hc_X1_saidFlag_32 : ((bL cX1_saidFlag).drop 32).take 18 = [0, 21, 29, 46, 172] := by decide +kernel
theorem dX1_saidFlag_34 : decode cX1_saidFlag 34 = .ok (.iload_n 3, 1) := o_29 (u1_2 hc_X1_saidFlag_32 rfl) rfl
theorem dX1_saidFlag_35 : decode cX1_saidFlag 35 = .ok (.iaload, 1) := o_46 (u1_3 hc_X1_saidFlag_32 rfl) rfl
theorem dX1_saidFlag_36 : decode cX1_saidFlag 36 = .ok (.ireturn, 1) := o_172 (u1_4 hc_X1_saidFlag_32 rfl) rfl
theorem hc_X1_keyOf_0 : ((bL cX1_keyOf).drop 0).take 18 = [42, 180, 0, 37, 27, 46, 61, 28, 16, 247, 160, 0, 8, 16, 247, 167, 0, 9] := by decide +kernel
theorem dX1_keyOf_0 : decode cX1_keyOf 0 = .ok (.aload_n 0, 1) := o_42 (u1_0 hc_X1_keyOf_0 rfl) rfl
theorem dX1_keyOf_1 : decode cX1_keyOf 1 = .ok (.getfield 37, 3) := o_180 (u1_1 hc_X1_keyOf_0 rfl) (u2_d (u1_2 hc_X1_keyOf_0 rfl) (u1_3 hc_X1_keyOf_0 rfl) rfl) rfl
theorem dX1_keyOf_4 : decode cX1_keyOf 4 = .ok (.iload_n 1, 1) := o_27 (u1_4 hc_X1_keyOf_0 rfl) rfl
theorem dX1_keyOf_5 : decode cX1_keyOf 5 = .ok (.iaload, 1) := o_46 (u1_5 hc_X1_keyOf_0 rfl) rfl
theorem dX1_keyOf_6 : decode cX1_keyOf 6 = .ok (.istore_n 2, 1) := o_61 (u1_6 hc_X1_keyOf_0 rfl) rfl
theorem dX1_keyOf_7 : decode cX1_keyOf 7 = .ok (.iload_n 2, 1) := o_28 (u1_7 hc_X1_keyOf_0 rfl) rfl
theorem dX1_keyOf_8 : decode cX1_keyOf 8 = .ok (.bipush (-9), 2) := o_16 (u1_8 hc_X1_keyOf_0 rfl) (s1_d (u1_9 hc_X1_keyOf_0 rfl) rfl) rfl
theorem dX1_keyOf_10 : decode cX1_keyOf 10 = .ok (.if_icmp .ne 8, 3) := o_160 (u1_10 hc_X1_keyOf_0 rfl) (s2_d (u2_d (u1_11 hc_X1_keyOf_0 rfl) (u1_12 hc_X1_keyOf_0 rfl) rfl) rfl) rfl
theorem dX1_keyOf_13 : decode cX1_keyOf 13 = .ok (.bipush (-9), 2) := o_16 (u1_13 hc_X1_keyOf_0 rfl) (s1_d (u1_14 hc_X1_keyOf_0 rfl) rfl) rfl
theorem dX1_keyOf_15 : decode cX1_keyOf 15 = .ok (.goto 9, 3) := o_167 (u1_15 hc_X1_keyOf_0 rfl) (s2_d (u2_d (u1_16 hc_X1_keyOf_0 rfl) (u1_17 hc_X1_keyOf_0 rfl) rfl) rfl) rfl
theorem hc_X1_keyOf_16 : ((bL cX1_keyOf).drop 16).take 18 = [0, 9, 42, 180, 0, 15, 28, 46, 172] := by decide +kernel
theorem dX1_keyOf_18 : decode cX1_keyOf 18 = .ok (.aload_n 0, 1) := o_42 (u1_2 hc_X1_keyOf_16 rfl) rfl
theorem dX1_keyOf_19 : decode cX1_keyOf 19 = .ok (.getfield 15, 3) := o_180 (u1_3 hc_X1_keyOf_16 rfl) (u2_d (u1_4 hc_X1_keyOf_16 rfl) (u1_5 hc_X1_keyOf_16 rfl) rfl) rfl
theorem dX1_keyOf_22 : decode cX1_keyOf 22 = .ok (.iload_n 2, 1) := o_28 (u1_6 hc_X1_keyOf_16 rfl) rfl
theorem dX1_keyOf_23 : decode cX1_keyOf 23 = .ok (.iaload, 1) := o_46 (u1_7 hc_X1_keyOf_16 rfl) rfl
theorem dX1_keyOf_24 : decode cX1_keyOf 24 = .ok (.ireturn, 1) := o_172 (u1_8 hc_X1_keyOf_16 rfl) rfl
theorem hc_X1_clearClash_0 : ((bL cX1_clearClash).drop 0).take 18 = [42, 3, 181, 0, 118, 177] := by decide +kernel
theorem dX1_clearClash_0 : decode cX1_clearClash 0 = .ok (.aload_n 0, 1) := o_42 (u1_0 hc_X1_clearClash_0 rfl) rfl
theorem dX1_clearClash_1 : decode cX1_clearClash 1 = .ok (.iconst 0, 1) := o_3 (u1_1 hc_X1_clearClash_0 rfl) rfl
theorem dX1_clearClash_2 : decode cX1_clearClash 2 = .ok (.putfield 118, 3) := o_181 (u1_2 hc_X1_clearClash_0 rfl) (u2_d (u1_3 hc_X1_clearClash_0 rfl) (u1_4 hc_X1_clearClash_0 rfl) rfl) rfl
theorem dX1_clearClash_5 : decode cX1_clearClash 5 = .ok (.return_, 1) := o_177 (u1_5 hc_X1_clearClash_0 rfl) rfl
theorem hc_X1_addClash_0 : ((bL cX1_addClash).drop 0).take 18 = [27, 16, 247, 159, 0, 15, 42, 180, 0, 118, 42, 180, 0, 40, 190, 161, 0, 5] := by decide +kernel
theorem dX1_addClash_0 : decode cX1_addClash 0 = .ok (.iload_n 1, 1) := o_27 (u1_0 hc_X1_addClash_0 rfl) rfl
theorem dX1_addClash_1 : decode cX1_addClash 1 = .ok (.bipush (-9), 2) := o_16 (u1_1 hc_X1_addClash_0 rfl) (s1_d (u1_2 hc_X1_addClash_0 rfl) rfl) rfl
theorem dX1_addClash_3 : decode cX1_addClash 3 = .ok (.if_icmp .eq 15, 3) := o_159 (u1_3 hc_X1_addClash_0 rfl) (s2_d (u2_d (u1_4 hc_X1_addClash_0 rfl) (u1_5 hc_X1_addClash_0 rfl) rfl) rfl) rfl
theorem dX1_addClash_6 : decode cX1_addClash 6 = .ok (.aload_n 0, 1) := o_42 (u1_6 hc_X1_addClash_0 rfl) rfl
theorem dX1_addClash_7 : decode cX1_addClash 7 = .ok (.getfield 118, 3) := o_180 (u1_7 hc_X1_addClash_0 rfl) (u2_d (u1_8 hc_X1_addClash_0 rfl) (u1_9 hc_X1_addClash_0 rfl) rfl) rfl
theorem dX1_addClash_10 : decode cX1_addClash 10 = .ok (.aload_n 0, 1) := o_42 (u1_10 hc_X1_addClash_0 rfl) rfl
theorem dX1_addClash_11 : decode cX1_addClash 11 = .ok (.getfield 40, 3) := o_180 (u1_11 hc_X1_addClash_0 rfl) (u2_d (u1_12 hc_X1_addClash_0 rfl) (u1_13 hc_X1_addClash_0 rfl) rfl) rfl
theorem dX1_addClash_14 : decode cX1_addClash 14 = .ok (.arraylength, 1) := o_190 (u1_14 hc_X1_addClash_0 rfl) rfl
theorem dX1_addClash_15 : decode cX1_addClash 15 = .ok (.if_icmp .lt 5, 3) := o_161 (u1_15 hc_X1_addClash_0 rfl) (s2_d (u2_d (u1_16 hc_X1_addClash_0 rfl) (u1_17 hc_X1_addClash_0 rfl) rfl) rfl) rfl
theorem hc_X1_addClash_16 : ((bL cX1_addClash).drop 16).take 18 = [0, 5, 3, 172, 42, 180, 0, 40, 42, 89, 180, 0, 118, 90, 4, 96, 181, 0] := by decide +kernel
theorem dX1_addClash_18 : decode cX1_addClash 18 = .ok (.iconst 0, 1) := o_3 (u1_2 hc_X1_addClash_16 rfl) rfl
theorem dX1_addClash_19 : decode cX1_addClash 19 = .ok (.ireturn, 1) := o_172 (u1_3 hc_X1_addClash_16 rfl) rfl
theorem dX1_addClash_20 : decode cX1_addClash 20 = .ok (.aload_n 0, 1) := o_42 (u1_4 hc_X1_addClash_16 rfl) rfl
theorem dX1_addClash_21 : decode cX1_addClash 21 = .ok (.getfield 40, 3) := o_180 (u1_5 hc_X1_addClash_16 rfl) (u2_d (u1_6 hc_X1_addClash_16 rfl) (u1_7 hc_X1_addClash_16 rfl) rfl) rfl
theorem dX1_addClash_24 : decode cX1_addClash 24 = .ok (.aload_n 0, 1) := o_42 (u1_8 hc_X1_addClash_16 rfl) rfl
theorem dX1_addClash_25 : decode cX1_addClash 25 = .ok (.dup, 1) := o_89 (u1_9 hc_X1_addClash_16 rfl) rfl
theorem dX1_addClash_26 : decode cX1_addClash 26 = .ok (.getfield 118, 3) := o_180 (u1_10 hc_X1_addClash_16 rfl) (u2_d (u1_11 hc_X1_addClash_16 rfl) (u1_12 hc_X1_addClash_16 rfl) rfl) rfl
theorem dX1_addClash_29 : decode cX1_addClash 29 = .ok (.dup_x1, 1) := o_90 (u1_13 hc_X1_addClash_16 rfl) rfl
theorem dX1_addClash_30 : decode cX1_addClash 30 = .ok (.iconst 1, 1) := o_4 (u1_14 hc_X1_addClash_16 rfl) rfl
theorem dX1_addClash_31 : decode cX1_addClash 31 = .ok (.iadd, 1) := o_96 (u1_15 hc_X1_addClash_16 rfl) rfl
theorem hc_X1_addClash_32 : ((bL cX1_addClash).drop 32).take 18 = [181, 0, 118, 27, 79, 4, 172] := by decide +kernel
theorem dX1_addClash_32 : decode cX1_addClash 32 = .ok (.putfield 118, 3) := o_181 (u1_0 hc_X1_addClash_32 rfl) (u2_d (u1_1 hc_X1_addClash_32 rfl) (u1_2 hc_X1_addClash_32 rfl) rfl) rfl
theorem dX1_addClash_35 : decode cX1_addClash 35 = .ok (.iload_n 1, 1) := o_27 (u1_3 hc_X1_addClash_32 rfl) rfl
theorem dX1_addClash_36 : decode cX1_addClash 36 = .ok (.iastore, 1) := o_79 (u1_4 hc_X1_addClash_32 rfl) rfl
theorem dX1_addClash_37 : decode cX1_addClash 37 = .ok (.iconst 1, 1) := o_4 (u1_5 hc_X1_addClash_32 rfl) rfl
theorem dX1_addClash_38 : decode cX1_addClash 38 = .ok (.ireturn, 1) := o_172 (u1_6 hc_X1_addClash_32 rfl) rfl
theorem hc_X1_isClashing_0 : ((bL cX1_isClashing).drop 0).take 18 = [42, 42, 27, 28, 29, 21, 4, 182, 0, 88, 182, 0, 121, 153, 0, 5, 4, 172] := by decide +kernel
theorem dX1_isClashing_0 : decode cX1_isClashing 0 = .ok (.aload_n 0, 1) := o_42 (u1_0 hc_X1_isClashing_0 rfl) rfl
theorem dX1_isClashing_1 : decode cX1_isClashing 1 = .ok (.aload_n 0, 1) := o_42 (u1_1 hc_X1_isClashing_0 rfl) rfl
theorem dX1_isClashing_2 : decode cX1_isClashing 2 = .ok (.iload_n 1, 1) := o_27 (u1_2 hc_X1_isClashing_0 rfl) rfl
theorem dX1_isClashing_3 : decode cX1_isClashing 3 = .ok (.iload_n 2, 1) := o_28 (u1_3 hc_X1_isClashing_0 rfl) rfl
theorem dX1_isClashing_4 : decode cX1_isClashing 4 = .ok (.iload_n 3, 1) := o_29 (u1_4 hc_X1_isClashing_0 rfl) rfl
theorem dX1_isClashing_5 : decode cX1_isClashing 5 = .ok (.iload 4, 2) := o_21 (u1_5 hc_X1_isClashing_0 rfl) (u1_6 hc_X1_isClashing_0 rfl) rfl
theorem dX1_isClashing_7 : decode cX1_isClashing 7 = .ok (.invokevirtual 88, 3) := o_182 (u1_7 hc_X1_isClashing_0 rfl) (u2_d (u1_8 hc_X1_isClashing_0 rfl) (u1_9 hc_X1_isClashing_0 rfl) rfl) rfl
theorem dX1_isClashing_10 : decode cX1_isClashing 10 = .ok (.invokevirtual 121, 3) := o_182 (u1_10 hc_X1_isClashing_0 rfl) (u2_d (u1_11 hc_X1_isClashing_0 rfl) (u1_12 hc_X1_isClashing_0 rfl) rfl) rfl
theorem dX1_isClashing_13 : decode cX1_isClashing 13 = .ok (.ifCond .eq 5, 3) := o_153 (u1_13 hc_X1_isClashing_0 rfl) (s2_d (u2_d (u1_14 hc_X1_isClashing_0 rfl) (u1_15 hc_X1_isClashing_0 rfl) rfl) rfl) rfl
theorem hc_X1_isClashing_16 : ((bL cX1_isClashing).drop 16).take 18 = [4, 172, 27, 170, 0, 0, 0, 69, 0, 0, 0, 5, 0, 0, 0, 7, 0, 0] := by decide +kernel
theorem dX1_isClashing_16 : decode cX1_isClashing 16 = .ok (.iconst 1, 1) := o_4 (u1_0 hc_X1_isClashing_16 rfl) rfl
theorem dX1_isClashing_17 : decode cX1_isClashing 17 = .ok (.ireturn, 1) := o_172 (u1_1 hc_X1_isClashing_16 rfl) rfl
theorem dX1_isClashing_18 : decode cX1_isClashing 18 = .ok (.iload_n 1, 1) := o_27 (u1_2 hc_X1_isClashing_16 rfl) rfl
theorem dX1_isClashing_19 : decode cX1_isClashing 19 = .ok (.tableswitch 69 5 7 #[25, 54, 65], 25) := by decide +kernel
theorem hc_X1_isClashing_32 : ((bL cX1_isClashing).drop 32).take 18 = [0, 0, 0, 25, 0, 0, 0, 54, 0, 0, 0, 65, 42, 180, 0, 43, 29, 182] := by decide +kernel
theorem dX1_isClashing_44 : decode cX1_isClashing 44 = .ok (.aload_n 0, 1) := o_42 (u1_12 hc_X1_isClashing_32 rfl) rfl
theorem dX1_isClashing_45 : decode cX1_isClashing 45 = .ok (.getfield 43, 3) := o_180 (u1_13 hc_X1_isClashing_32 rfl) (u2_d (u1_14 hc_X1_isClashing_32 rfl) (u1_15 hc_X1_isClashing_32 rfl) rfl) rfl
theorem hc_X1_isClashing_48 : ((bL cX1_isClashing).drop 48).take 18 = [29, 182, 0, 72, 5, 160, 0, 16, 42, 28, 29, 182, 0, 124, 153, 0, 7, 4] := by decide +kernel
theorem dX1_isClashing_48 : decode cX1_isClashing 48 = .ok (.iload_n 3, 1) := o_29 (u1_0 hc_X1_isClashing_48 rfl) rfl
theorem dX1_isClashing_49 : decode cX1_isClashing 49 = .ok (.invokevirtual 72, 3) := o_182 (u1_1 hc_X1_isClashing_48 rfl) (u2_d (u1_2 hc_X1_isClashing_48 rfl) (u1_3 hc_X1_isClashing_48 rfl) rfl) rfl
theorem dX1_isClashing_52 : decode cX1_isClashing 52 = .ok (.iconst 2, 1) := o_5 (u1_4 hc_X1_isClashing_48 rfl) rfl
theorem dX1_isClashing_53 : decode cX1_isClashing 53 = .ok (.if_icmp .ne 16, 3) := o_160 (u1_5 hc_X1_isClashing_48 rfl) (s2_d (u2_d (u1_6 hc_X1_isClashing_48 rfl) (u1_7 hc_X1_isClashing_48 rfl) rfl) rfl) rfl
theorem dX1_isClashing_56 : decode cX1_isClashing 56 = .ok (.aload_n 0, 1) := o_42 (u1_8 hc_X1_isClashing_48 rfl) rfl
theorem dX1_isClashing_57 : decode cX1_isClashing 57 = .ok (.iload_n 2, 1) := o_28 (u1_9 hc_X1_isClashing_48 rfl) rfl
theorem dX1_isClashing_58 : decode cX1_isClashing 58 = .ok (.iload_n 3, 1) := o_29 (u1_10 hc_X1_isClashing_48 rfl) rfl
theorem dX1_isClashing_59 : decode cX1_isClashing 59 = .ok (.invokevirtual 124, 3) := o_182 (u1_11 hc_X1_isClashing_48 rfl) (u2_d (u1_12 hc_X1_isClashing_48 rfl) (u1_13 hc_X1_isClashing_48 rfl) rfl) rfl
theorem dX1_isClashing_62 : decode cX1_isClashing 62 = .ok (.ifCond .eq 7, 3) := o_153 (u1_14 hc_X1_isClashing_48 rfl) (s2_d (u2_d (u1_15 hc_X1_isClashing_48 rfl) (u1_16 hc_X1_isClashing_48 rfl) rfl) rfl) rfl
theorem hc_X1_isClashing_64 : ((bL cX1_isClashing).drop 64).take 18 = [7, 4, 167, 0, 29, 3, 167, 0, 25, 42, 28, 29, 21, 4, 182, 0, 127, 167] := by decide +kernel
theorem dX1_isClashing_65 : decode cX1_isClashing 65 = .ok (.iconst 1, 1) := o_4 (u1_1 hc_X1_isClashing_64 rfl) rfl
theorem dX1_isClashing_66 : decode cX1_isClashing 66 = .ok (.goto 29, 3) := o_167 (u1_2 hc_X1_isClashing_64 rfl) (s2_d (u2_d (u1_3 hc_X1_isClashing_64 rfl) (u1_4 hc_X1_isClashing_64 rfl) rfl) rfl) rfl
theorem dX1_isClashing_69 : decode cX1_isClashing 69 = .ok (.iconst 0, 1) := o_3 (u1_5 hc_X1_isClashing_64 rfl) rfl
theorem dX1_isClashing_70 : decode cX1_isClashing 70 = .ok (.goto 25, 3) := o_167 (u1_6 hc_X1_isClashing_64 rfl) (s2_d (u2_d (u1_7 hc_X1_isClashing_64 rfl) (u1_8 hc_X1_isClashing_64 rfl) rfl) rfl) rfl
theorem dX1_isClashing_73 : decode cX1_isClashing 73 = .ok (.aload_n 0, 1) := o_42 (u1_9 hc_X1_isClashing_64 rfl) rfl
theorem dX1_isClashing_74 : decode cX1_isClashing 74 = .ok (.iload_n 2, 1) := o_28 (u1_10 hc_X1_isClashing_64 rfl) rfl
theorem dX1_isClashing_75 : decode cX1_isClashing 75 = .ok (.iload_n 3, 1) := o_29 (u1_11 hc_X1_isClashing_64 rfl) rfl
theorem dX1_isClashing_76 : decode cX1_isClashing 76 = .ok (.iload 4, 2) := o_21 (u1_12 hc_X1_isClashing_64 rfl) (u1_13 hc_X1_isClashing_64 rfl) rfl
theorem dX1_isClashing_78 : decode cX1_isClashing 78 = .ok (.invokevirtual 127, 3) := o_182 (u1_14 hc_X1_isClashing_64 rfl) (u2_d (u1_15 hc_X1_isClashing_64 rfl) (u1_16 hc_X1_isClashing_64 rfl) rfl) rfl
theorem hc_X1_isClashing_80 : ((bL cX1_isClashing).drop 80).take 18 = [127, 167, 0, 14, 3, 167, 0, 10, 42, 27, 28, 29, 182, 0, 131, 172] := by decide +kernel
theorem dX1_isClashing_81 : decode cX1_isClashing 81 = .ok (.goto 14, 3) := o_167 (u1_1 hc_X1_isClashing_80 rfl) (s2_d (u2_d (u1_2 hc_X1_isClashing_80 rfl) (u1_3 hc_X1_isClashing_80 rfl) rfl) rfl) rfl
theorem dX1_isClashing_84 : decode cX1_isClashing 84 = .ok (.iconst 0, 1) := o_3 (u1_4 hc_X1_isClashing_80 rfl) rfl
theorem dX1_isClashing_85 : decode cX1_isClashing 85 = .ok (.goto 10, 3) := o_167 (u1_5 hc_X1_isClashing_80 rfl) (s2_d (u2_d (u1_6 hc_X1_isClashing_80 rfl) (u1_7 hc_X1_isClashing_80 rfl) rfl) rfl) rfl
theorem dX1_isClashing_88 : decode cX1_isClashing 88 = .ok (.aload_n 0, 1) := o_42 (u1_8 hc_X1_isClashing_80 rfl) rfl
theorem dX1_isClashing_89 : decode cX1_isClashing 89 = .ok (.iload_n 1, 1) := o_27 (u1_9 hc_X1_isClashing_80 rfl) rfl
theorem dX1_isClashing_90 : decode cX1_isClashing 90 = .ok (.iload_n 2, 1) := o_28 (u1_10 hc_X1_isClashing_80 rfl) rfl
theorem dX1_isClashing_91 : decode cX1_isClashing 91 = .ok (.iload_n 3, 1) := o_29 (u1_11 hc_X1_isClashing_80 rfl) rfl
theorem dX1_isClashing_92 : decode cX1_isClashing 92 = .ok (.invokevirtual 131, 3) := o_182 (u1_12 hc_X1_isClashing_80 rfl) (u2_d (u1_13 hc_X1_isClashing_80 rfl) (u1_14 hc_X1_isClashing_80 rfl) rfl) rfl
theorem dX1_isClashing_95 : decode cX1_isClashing 95 = .ok (.ireturn, 1) := o_172 (u1_15 hc_X1_isClashing_80 rfl) rfl
theorem hc_X1_isPlaceClashing_0 : ((bL cX1_isPlaceClashing).drop 0).take 18 = [28, 29, 160, 0, 5, 4, 172, 42, 180, 0, 52, 28, 29, 182, 0, 134, 153, 0] := by decide +kernel
theorem dX1_isPlaceClashing_0 : decode cX1_isPlaceClashing 0 = .ok (.iload_n 2, 1) := o_28 (u1_0 hc_X1_isPlaceClashing_0 rfl) rfl
theorem dX1_isPlaceClashing_1 : decode cX1_isPlaceClashing 1 = .ok (.iload_n 3, 1) := o_29 (u1_1 hc_X1_isPlaceClashing_0 rfl) rfl
theorem dX1_isPlaceClashing_2 : decode cX1_isPlaceClashing 2 = .ok (.if_icmp .ne 5, 3) := o_160 (u1_2 hc_X1_isPlaceClashing_0 rfl) (s2_d (u2_d (u1_3 hc_X1_isPlaceClashing_0 rfl) (u1_4 hc_X1_isPlaceClashing_0 rfl) rfl) rfl) rfl
theorem dX1_isPlaceClashing_5 : decode cX1_isPlaceClashing 5 = .ok (.iconst 1, 1) := o_4 (u1_5 hc_X1_isPlaceClashing_0 rfl) rfl
theorem dX1_isPlaceClashing_6 : decode cX1_isPlaceClashing 6 = .ok (.ireturn, 1) := o_172 (u1_6 hc_X1_isPlaceClashing_0 rfl) rfl
theorem dX1_isPlaceClashing_7 : decode cX1_isPlaceClashing 7 = .ok (.aload_n 0, 1) := o_42 (u1_7 hc_X1_isPlaceClashing_0 rfl) rfl
theorem dX1_isPlaceClashing_8 : decode cX1_isPlaceClashing 8 = .ok (.getfield 52, 3) := o_180 (u1_8 hc_X1_isPlaceClashing_0 rfl) (u2_d (u1_9 hc_X1_isPlaceClashing_0 rfl) (u1_10 hc_X1_isPlaceClashing_0 rfl) rfl) rfl
theorem dX1_isPlaceClashing_11 : decode cX1_isPlaceClashing 11 = .ok (.iload_n 2, 1) := o_28 (u1_11 hc_X1_isPlaceClashing_0 rfl) rfl
theorem dX1_isPlaceClashing_12 : decode cX1_isPlaceClashing 12 = .ok (.iload_n 3, 1) := o_29 (u1_12 hc_X1_isPlaceClashing_0 rfl) rfl
theorem dX1_isPlaceClashing_13 : decode cX1_isPlaceClashing 13 = .ok (.invokevirtual 134, 3) := o_182 (u1_13 hc_X1_isPlaceClashing_0 rfl) (u2_d (u1_14 hc_X1_isPlaceClashing_0 rfl) (u1_15 hc_X1_isPlaceClashing_0 rfl) rfl) rfl
theorem hc_X1_isPlaceClashing_16 : ((bL cX1_isPlaceClashing).drop 16).take 18 = [153, 0, 11, 42, 28, 29, 182, 0, 137, 4, 172, 27, 6, 160, 0, 21, 42, 42] := by decide +kernel
theorem dX1_isPlaceClashing_16 : decode cX1_isPlaceClashing 16 = .ok (.ifCond .eq 11, 3) := o_153 (u1_0 hc_X1_isPlaceClashing_16 rfl) (s2_d (u2_d (u1_1 hc_X1_isPlaceClashing_16 rfl) (u1_2 hc_X1_isPlaceClashing_16 rfl) rfl) rfl) rfl
theorem dX1_isPlaceClashing_19 : decode cX1_isPlaceClashing 19 = .ok (.aload_n 0, 1) := o_42 (u1_3 hc_X1_isPlaceClashing_16 rfl) rfl
theorem dX1_isPlaceClashing_20 : decode cX1_isPlaceClashing 20 = .ok (.iload_n 2, 1) := o_28 (u1_4 hc_X1_isPlaceClashing_16 rfl) rfl
theorem dX1_isPlaceClashing_21 : decode cX1_isPlaceClashing 21 = .ok (.iload_n 3, 1) := o_29 (u1_5 hc_X1_isPlaceClashing_16 rfl) rfl
theorem dX1_isPlaceClashing_22 : decode cX1_isPlaceClashing 22 = .ok (.invokevirtual 137, 3) := o_182 (u1_6 hc_X1_isPlaceClashing_16 rfl) (u2_d (u1_7 hc_X1_isPlaceClashing_16 rfl) (u1_8 hc_X1_isPlaceClashing_16 rfl) rfl) rfl
theorem dX1_isPlaceClashing_25 : decode cX1_isPlaceClashing 25 = .ok (.iconst 1, 1) := o_4 (u1_9 hc_X1_isPlaceClashing_16 rfl) rfl
theorem dX1_isPlaceClashing_26 : decode cX1_isPlaceClashing 26 = .ok (.ireturn, 1) := o_172 (u1_10 hc_X1_isPlaceClashing_16 rfl) rfl
theorem dX1_isPlaceClashing_27 : decode cX1_isPlaceClashing 27 = .ok (.iload_n 1, 1) := o_27 (u1_11 hc_X1_isPlaceClashing_16 rfl) rfl
theorem dX1_isPlaceClashing_28 : decode cX1_isPlaceClashing 28 = .ok (.iconst 3, 1) := o_6 (u1_12 hc_X1_isPlaceClashing_16 rfl) rfl
theorem dX1_isPlaceClashing_29 : decode cX1_isPlaceClashing 29 = .ok (.if_icmp .ne 21, 3) := o_160 (u1_13 hc_X1_isPlaceClashing_16 rfl) (s2_d (u2_d (u1_14 hc_X1_isPlaceClashing_16 rfl) (u1_15 hc_X1_isPlaceClashing_16 rfl) rfl) rfl) rfl
theorem hc_X1_isPlaceClashing_32 : ((bL cX1_isPlaceClashing).drop 32).take 18 = [42, 42, 28, 7, 3, 182, 0, 140, 182, 0, 121, 153, 0, 7, 4, 167, 0, 4] := by decide +kernel
theorem dX1_isPlaceClashing_32 : decode cX1_isPlaceClashing 32 = .ok (.aload_n 0, 1) := o_42 (u1_0 hc_X1_isPlaceClashing_32 rfl) rfl
theorem dX1_isPlaceClashing_33 : decode cX1_isPlaceClashing 33 = .ok (.aload_n 0, 1) := o_42 (u1_1 hc_X1_isPlaceClashing_32 rfl) rfl
theorem dX1_isPlaceClashing_34 : decode cX1_isPlaceClashing 34 = .ok (.iload_n 2, 1) := o_28 (u1_2 hc_X1_isPlaceClashing_32 rfl) rfl
theorem dX1_isPlaceClashing_35 : decode cX1_isPlaceClashing 35 = .ok (.iconst 4, 1) := o_7 (u1_3 hc_X1_isPlaceClashing_32 rfl) rfl
theorem dX1_isPlaceClashing_36 : decode cX1_isPlaceClashing 36 = .ok (.iconst 0, 1) := o_3 (u1_4 hc_X1_isPlaceClashing_32 rfl) rfl
theorem dX1_isPlaceClashing_37 : decode cX1_isPlaceClashing 37 = .ok (.invokevirtual 140, 3) := o_182 (u1_5 hc_X1_isPlaceClashing_32 rfl) (u2_d (u1_6 hc_X1_isPlaceClashing_32 rfl) (u1_7 hc_X1_isPlaceClashing_32 rfl) rfl) rfl
theorem dX1_isPlaceClashing_40 : decode cX1_isPlaceClashing 40 = .ok (.invokevirtual 121, 3) := o_182 (u1_8 hc_X1_isPlaceClashing_32 rfl) (u2_d (u1_9 hc_X1_isPlaceClashing_32 rfl) (u1_10 hc_X1_isPlaceClashing_32 rfl) rfl) rfl
theorem dX1_isPlaceClashing_43 : decode cX1_isPlaceClashing 43 = .ok (.ifCond .eq 7, 3) := o_153 (u1_11 hc_X1_isPlaceClashing_32 rfl) (s2_d (u2_d (u1_12 hc_X1_isPlaceClashing_32 rfl) (u1_13 hc_X1_isPlaceClashing_32 rfl) rfl) rfl) rfl
theorem dX1_isPlaceClashing_46 : decode cX1_isPlaceClashing 46 = .ok (.iconst 1, 1) := o_4 (u1_14 hc_X1_isPlaceClashing_32 rfl) rfl
theorem dX1_isPlaceClashing_47 : decode cX1_isPlaceClashing 47 = .ok (.goto 4, 3) := o_167 (u1_15 hc_X1_isPlaceClashing_32 rfl) (s2_d (u2_d (u1_16 hc_X1_isPlaceClashing_32 rfl) (u1_17 hc_X1_isPlaceClashing_32 rfl) rfl) rfl) rfl
theorem hc_X1_isPlaceClashing_48 : ((bL cX1_isPlaceClashing).drop 48).take 18 = [0, 4, 3, 172] := by decide +kernel
theorem dX1_isPlaceClashing_50 : decode cX1_isPlaceClashing 50 = .ok (.iconst 0, 1) := o_3 (u1_2 hc_X1_isPlaceClashing_48 rfl) rfl
theorem dX1_isPlaceClashing_51 : decode cX1_isPlaceClashing 51 = .ok (.ireturn, 1) := o_172 (u1_3 hc_X1_isPlaceClashing_48 rfl) rfl
theorem hc_X1_addChain_0 : ((bL cX1_addChain).drop 0).take 18 = [28, 62, 3, 54, 4, 21, 4, 16, 30, 162, 0, 40, 29, 27, 159, 0, 35, 29] := by decide +kernel
theorem dX1_addChain_0 : decode cX1_addChain 0 = .ok (.iload_n 2, 1) := o_28 (u1_0 hc_X1_addChain_0 rfl) rfl
theorem dX1_addChain_1 : decode cX1_addChain 1 = .ok (.istore_n 3, 1) := o_62 (u1_1 hc_X1_addChain_0 rfl) rfl
theorem dX1_addChain_2 : decode cX1_addChain 2 = .ok (.iconst 0, 1) := o_3 (u1_2 hc_X1_addChain_0 rfl) rfl
theorem dX1_addChain_3 : decode cX1_addChain 3 = .ok (.istore 4, 2) := o_54 (u1_3 hc_X1_addChain_0 rfl) (u1_4 hc_X1_addChain_0 rfl) rfl
theorem dX1_addChain_5 : decode cX1_addChain 5 = .ok (.iload 4, 2) := o_21 (u1_5 hc_X1_addChain_0 rfl) (u1_6 hc_X1_addChain_0 rfl) rfl
theorem dX1_addChain_7 : decode cX1_addChain 7 = .ok (.bipush 30, 2) := o_16 (u1_7 hc_X1_addChain_0 rfl) (s1_d (u1_8 hc_X1_addChain_0 rfl) rfl) rfl
theorem dX1_addChain_9 : decode cX1_addChain 9 = .ok (.if_icmp .ge 40, 3) := o_162 (u1_9 hc_X1_addChain_0 rfl) (s2_d (u2_d (u1_10 hc_X1_addChain_0 rfl) (u1_11 hc_X1_addChain_0 rfl) rfl) rfl) rfl
theorem dX1_addChain_12 : decode cX1_addChain 12 = .ok (.iload_n 3, 1) := o_29 (u1_12 hc_X1_addChain_0 rfl) rfl
theorem dX1_addChain_13 : decode cX1_addChain 13 = .ok (.iload_n 1, 1) := o_27 (u1_13 hc_X1_addChain_0 rfl) rfl
theorem dX1_addChain_14 : decode cX1_addChain 14 = .ok (.if_icmp .eq 35, 3) := o_159 (u1_14 hc_X1_addChain_0 rfl) (s2_d (u2_d (u1_15 hc_X1_addChain_0 rfl) (u1_16 hc_X1_addChain_0 rfl) rfl) rfl) rfl
theorem hc_X1_addChain_16 : ((bL cX1_addChain).drop 16).take 18 = [35, 29, 16, 247, 159, 0, 29, 42, 42, 180, 0, 28, 29, 46, 182, 0, 121, 87] := by decide +kernel
theorem dX1_addChain_17 : decode cX1_addChain 17 = .ok (.iload_n 3, 1) := o_29 (u1_1 hc_X1_addChain_16 rfl) rfl
theorem dX1_addChain_18 : decode cX1_addChain 18 = .ok (.bipush (-9), 2) := o_16 (u1_2 hc_X1_addChain_16 rfl) (s1_d (u1_3 hc_X1_addChain_16 rfl) rfl) rfl
theorem dX1_addChain_20 : decode cX1_addChain 20 = .ok (.if_icmp .eq 29, 3) := o_159 (u1_4 hc_X1_addChain_16 rfl) (s2_d (u2_d (u1_5 hc_X1_addChain_16 rfl) (u1_6 hc_X1_addChain_16 rfl) rfl) rfl) rfl
theorem dX1_addChain_23 : decode cX1_addChain 23 = .ok (.aload_n 0, 1) := o_42 (u1_7 hc_X1_addChain_16 rfl) rfl
theorem dX1_addChain_24 : decode cX1_addChain 24 = .ok (.aload_n 0, 1) := o_42 (u1_8 hc_X1_addChain_16 rfl) rfl
theorem dX1_addChain_25 : decode cX1_addChain 25 = .ok (.getfield 28, 3) := o_180 (u1_9 hc_X1_addChain_16 rfl) (u2_d (u1_10 hc_X1_addChain_16 rfl) (u1_11 hc_X1_addChain_16 rfl) rfl) rfl
theorem dX1_addChain_28 : decode cX1_addChain 28 = .ok (.iload_n 3, 1) := o_29 (u1_12 hc_X1_addChain_16 rfl) rfl
theorem dX1_addChain_29 : decode cX1_addChain 29 = .ok (.iaload, 1) := o_46 (u1_13 hc_X1_addChain_16 rfl) rfl
theorem dX1_addChain_30 : decode cX1_addChain 30 = .ok (.invokevirtual 121, 3) := o_182 (u1_14 hc_X1_addChain_16 rfl) (u2_d (u1_15 hc_X1_addChain_16 rfl) (u1_16 hc_X1_addChain_16 rfl) rfl) rfl
theorem hc_X1_addChain_32 : ((bL cX1_addChain).drop 32).take 18 = [121, 87, 42, 180, 0, 52, 29, 182, 0, 143, 62, 132, 4, 1, 167, 255, 215, 177] := by decide +kernel
theorem dX1_addChain_33 : decode cX1_addChain 33 = .ok (.pop, 1) := o_87 (u1_1 hc_X1_addChain_32 rfl) rfl
theorem dX1_addChain_34 : decode cX1_addChain 34 = .ok (.aload_n 0, 1) := o_42 (u1_2 hc_X1_addChain_32 rfl) rfl
theorem dX1_addChain_35 : decode cX1_addChain 35 = .ok (.getfield 52, 3) := o_180 (u1_3 hc_X1_addChain_32 rfl) (u2_d (u1_4 hc_X1_addChain_32 rfl) (u1_5 hc_X1_addChain_32 rfl) rfl) rfl
theorem dX1_addChain_38 : decode cX1_addChain 38 = .ok (.iload_n 3, 1) := o_29 (u1_6 hc_X1_addChain_32 rfl) rfl
theorem dX1_addChain_39 : decode cX1_addChain 39 = .ok (.invokevirtual 143, 3) := o_182 (u1_7 hc_X1_addChain_32 rfl) (u2_d (u1_8 hc_X1_addChain_32 rfl) (u1_9 hc_X1_addChain_32 rfl) rfl) rfl
theorem dX1_addChain_42 : decode cX1_addChain 42 = .ok (.istore_n 3, 1) := o_62 (u1_10 hc_X1_addChain_32 rfl) rfl
theorem dX1_addChain_43 : decode cX1_addChain 43 = .ok (.iinc 4 1, 3) := o_132 (u1_11 hc_X1_addChain_32 rfl) (u1_12 hc_X1_addChain_32 rfl) (s1_d (u1_13 hc_X1_addChain_32 rfl) rfl) rfl
theorem dX1_addChain_46 : decode cX1_addChain 46 = .ok (.goto (-41), 3) := o_167 (u1_14 hc_X1_addChain_32 rfl) (s2_d (u2_d (u1_15 hc_X1_addChain_32 rfl) (u1_16 hc_X1_addChain_32 rfl) rfl) rfl) rfl
theorem hc_X1_addChain_48 : ((bL cX1_addChain).drop 48).take 18 = [215, 177] := by decide +kernel
theorem dX1_addChain_49 : decode cX1_addChain 49 = .ok (.return_, 1) := o_177 (u1_1 hc_X1_addChain_48 rfl) rfl
theorem hc_X1_isDoorClashing_0 : ((bL cX1_isDoorClashing).drop 0).take 18 = [3, 62, 29, 16, 10, 162, 0, 47, 42, 180, 0, 31, 27, 16, 10, 104, 29, 96] := by decide +kernel
theorem dX1_isDoorClashing_0 : decode cX1_isDoorClashing 0 = .ok (.iconst 0, 1) := o_3 (u1_0 hc_X1_isDoorClashing_0 rfl) rfl
theorem dX1_isDoorClashing_1 : decode cX1_isDoorClashing 1 = .ok (.istore_n 3, 1) := o_62 (u1_1 hc_X1_isDoorClashing_0 rfl) rfl
theorem dX1_isDoorClashing_2 : decode cX1_isDoorClashing 2 = .ok (.iload_n 3, 1) := o_29 (u1_2 hc_X1_isDoorClashing_0 rfl) rfl
theorem dX1_isDoorClashing_3 : decode cX1_isDoorClashing 3 = .ok (.bipush 10, 2) := o_16 (u1_3 hc_X1_isDoorClashing_0 rfl) (s1_d (u1_4 hc_X1_isDoorClashing_0 rfl) rfl) rfl
theorem dX1_isDoorClashing_5 : decode cX1_isDoorClashing 5 = .ok (.if_icmp .ge 47, 3) := o_162 (u1_5 hc_X1_isDoorClashing_0 rfl) (s2_d (u2_d (u1_6 hc_X1_isDoorClashing_0 rfl) (u1_7 hc_X1_isDoorClashing_0 rfl) rfl) rfl) rfl
theorem dX1_isDoorClashing_8 : decode cX1_isDoorClashing 8 = .ok (.aload_n 0, 1) := o_42 (u1_8 hc_X1_isDoorClashing_0 rfl) rfl
theorem dX1_isDoorClashing_9 : decode cX1_isDoorClashing 9 = .ok (.getfield 31, 3) := o_180 (u1_9 hc_X1_isDoorClashing_0 rfl) (u2_d (u1_10 hc_X1_isDoorClashing_0 rfl) (u1_11 hc_X1_isDoorClashing_0 rfl) rfl) rfl
theorem dX1_isDoorClashing_12 : decode cX1_isDoorClashing 12 = .ok (.iload_n 1, 1) := o_27 (u1_12 hc_X1_isDoorClashing_0 rfl) rfl
theorem dX1_isDoorClashing_13 : decode cX1_isDoorClashing 13 = .ok (.bipush 10, 2) := o_16 (u1_13 hc_X1_isDoorClashing_0 rfl) (s1_d (u1_14 hc_X1_isDoorClashing_0 rfl) rfl) rfl
theorem dX1_isDoorClashing_15 : decode cX1_isDoorClashing 15 = .ok (.imul, 1) := o_104 (u1_15 hc_X1_isDoorClashing_0 rfl) rfl
theorem hc_X1_isDoorClashing_16 : ((bL cX1_isDoorClashing).drop 16).take 18 = [29, 96, 46, 54, 4, 21, 4, 16, 247, 159, 0, 21, 42, 180, 0, 18, 21, 4] := by decide +kernel
theorem dX1_isDoorClashing_16 : decode cX1_isDoorClashing 16 = .ok (.iload_n 3, 1) := o_29 (u1_0 hc_X1_isDoorClashing_16 rfl) rfl
theorem dX1_isDoorClashing_17 : decode cX1_isDoorClashing 17 = .ok (.iadd, 1) := o_96 (u1_1 hc_X1_isDoorClashing_16 rfl) rfl
theorem dX1_isDoorClashing_18 : decode cX1_isDoorClashing 18 = .ok (.iaload, 1) := o_46 (u1_2 hc_X1_isDoorClashing_16 rfl) rfl
theorem dX1_isDoorClashing_19 : decode cX1_isDoorClashing 19 = .ok (.istore 4, 2) := o_54 (u1_3 hc_X1_isDoorClashing_16 rfl) (u1_4 hc_X1_isDoorClashing_16 rfl) rfl
theorem dX1_isDoorClashing_21 : decode cX1_isDoorClashing 21 = .ok (.iload 4, 2) := o_21 (u1_5 hc_X1_isDoorClashing_16 rfl) (u1_6 hc_X1_isDoorClashing_16 rfl) rfl
theorem dX1_isDoorClashing_23 : decode cX1_isDoorClashing 23 = .ok (.bipush (-9), 2) := o_16 (u1_7 hc_X1_isDoorClashing_16 rfl) (s1_d (u1_8 hc_X1_isDoorClashing_16 rfl) rfl) rfl
theorem dX1_isDoorClashing_25 : decode cX1_isDoorClashing 25 = .ok (.if_icmp .eq 21, 3) := o_159 (u1_9 hc_X1_isDoorClashing_16 rfl) (s2_d (u2_d (u1_10 hc_X1_isDoorClashing_16 rfl) (u1_11 hc_X1_isDoorClashing_16 rfl) rfl) rfl) rfl
theorem dX1_isDoorClashing_28 : decode cX1_isDoorClashing 28 = .ok (.aload_n 0, 1) := o_42 (u1_12 hc_X1_isDoorClashing_16 rfl) rfl
theorem dX1_isDoorClashing_29 : decode cX1_isDoorClashing 29 = .ok (.getfield 18, 3) := o_180 (u1_13 hc_X1_isDoorClashing_16 rfl) (u2_d (u1_14 hc_X1_isDoorClashing_16 rfl) (u1_15 hc_X1_isDoorClashing_16 rfl) rfl) rfl
theorem hc_X1_isDoorClashing_32 : ((bL cX1_isDoorClashing).drop 32).take 18 = [21, 4, 46, 28, 160, 0, 10, 42, 21, 4, 182, 0, 121, 172, 132, 3, 1, 167] := by decide +kernel
theorem dX1_isDoorClashing_32 : decode cX1_isDoorClashing 32 = .ok (.iload 4, 2) := o_21 (u1_0 hc_X1_isDoorClashing_32 rfl) (u1_1 hc_X1_isDoorClashing_32 rfl) rfl
theorem dX1_isDoorClashing_34 : decode cX1_isDoorClashing 34 = .ok (.iaload, 1) := o_46 (u1_2 hc_X1_isDoorClashing_32 rfl) rfl
theorem dX1_isDoorClashing_35 : decode cX1_isDoorClashing 35 = .ok (.iload_n 2, 1) := o_28 (u1_3 hc_X1_isDoorClashing_32 rfl) rfl
theorem dX1_isDoorClashing_36 : decode cX1_isDoorClashing 36 = .ok (.if_icmp .ne 10, 3) := o_160 (u1_4 hc_X1_isDoorClashing_32 rfl) (s2_d (u2_d (u1_5 hc_X1_isDoorClashing_32 rfl) (u1_6 hc_X1_isDoorClashing_32 rfl) rfl) rfl) rfl
theorem dX1_isDoorClashing_39 : decode cX1_isDoorClashing 39 = .ok (.aload_n 0, 1) := o_42 (u1_7 hc_X1_isDoorClashing_32 rfl) rfl
theorem dX1_isDoorClashing_40 : decode cX1_isDoorClashing 40 = .ok (.iload 4, 2) := o_21 (u1_8 hc_X1_isDoorClashing_32 rfl) (u1_9 hc_X1_isDoorClashing_32 rfl) rfl
theorem dX1_isDoorClashing_42 : decode cX1_isDoorClashing 42 = .ok (.invokevirtual 121, 3) := o_182 (u1_10 hc_X1_isDoorClashing_32 rfl) (u2_d (u1_11 hc_X1_isDoorClashing_32 rfl) (u1_12 hc_X1_isDoorClashing_32 rfl) rfl) rfl
theorem dX1_isDoorClashing_45 : decode cX1_isDoorClashing 45 = .ok (.ireturn, 1) := o_172 (u1_13 hc_X1_isDoorClashing_32 rfl) rfl
theorem dX1_isDoorClashing_46 : decode cX1_isDoorClashing 46 = .ok (.iinc 3 1, 3) := o_132 (u1_14 hc_X1_isDoorClashing_32 rfl) (u1_15 hc_X1_isDoorClashing_32 rfl) (s1_d (u1_16 hc_X1_isDoorClashing_32 rfl) rfl) rfl
theorem hc_X1_isDoorClashing_48 : ((bL cX1_isDoorClashing).drop 48).take 18 = [1, 167, 255, 209, 3, 62, 29, 42, 180, 0, 92, 162, 0, 44, 42, 180, 0, 24] := by decide +kernel
theorem dX1_isDoorClashing_49 : decode cX1_isDoorClashing 49 = .ok (.goto (-47), 3) := o_167 (u1_1 hc_X1_isDoorClashing_48 rfl) (s2_d (u2_d (u1_2 hc_X1_isDoorClashing_48 rfl) (u1_3 hc_X1_isDoorClashing_48 rfl) rfl) rfl) rfl
theorem dX1_isDoorClashing_52 : decode cX1_isDoorClashing 52 = .ok (.iconst 0, 1) := o_3 (u1_4 hc_X1_isDoorClashing_48 rfl) rfl
theorem dX1_isDoorClashing_53 : decode cX1_isDoorClashing 53 = .ok (.istore_n 3, 1) := o_62 (u1_5 hc_X1_isDoorClashing_48 rfl) rfl
theorem dX1_isDoorClashing_54 : decode cX1_isDoorClashing 54 = .ok (.iload_n 3, 1) := o_29 (u1_6 hc_X1_isDoorClashing_48 rfl) rfl
theorem dX1_isDoorClashing_55 : decode cX1_isDoorClashing 55 = .ok (.aload_n 0, 1) := o_42 (u1_7 hc_X1_isDoorClashing_48 rfl) rfl
theorem dX1_isDoorClashing_56 : decode cX1_isDoorClashing 56 = .ok (.getfield 92, 3) := o_180 (u1_8 hc_X1_isDoorClashing_48 rfl) (u2_d (u1_9 hc_X1_isDoorClashing_48 rfl) (u1_10 hc_X1_isDoorClashing_48 rfl) rfl) rfl
theorem dX1_isDoorClashing_59 : decode cX1_isDoorClashing 59 = .ok (.if_icmp .ge 44, 3) := o_162 (u1_11 hc_X1_isDoorClashing_48 rfl) (s2_d (u2_d (u1_12 hc_X1_isDoorClashing_48 rfl) (u1_13 hc_X1_isDoorClashing_48 rfl) rfl) rfl) rfl
theorem dX1_isDoorClashing_62 : decode cX1_isDoorClashing 62 = .ok (.aload_n 0, 1) := o_42 (u1_14 hc_X1_isDoorClashing_48 rfl) rfl
theorem dX1_isDoorClashing_63 : decode cX1_isDoorClashing 63 = .ok (.getfield 24, 3) := o_180 (u1_15 hc_X1_isDoorClashing_48 rfl) (u2_d (u1_16 hc_X1_isDoorClashing_48 rfl) (u1_17 hc_X1_isDoorClashing_48 rfl) rfl) rfl
theorem hc_X1_isDoorClashing_64 : ((bL cX1_isDoorClashing).drop 64).take 18 = [0, 24, 29, 51, 153, 0, 29, 42, 180, 0, 9, 29, 46, 8, 160, 0, 19, 42] := by decide +kernel
theorem dX1_isDoorClashing_66 : decode cX1_isDoorClashing 66 = .ok (.iload_n 3, 1) := o_29 (u1_2 hc_X1_isDoorClashing_64 rfl) rfl
theorem dX1_isDoorClashing_67 : decode cX1_isDoorClashing 67 = .ok (.baload, 1) := o_51 (u1_3 hc_X1_isDoorClashing_64 rfl) rfl
theorem dX1_isDoorClashing_68 : decode cX1_isDoorClashing 68 = .ok (.ifCond .eq 29, 3) := o_153 (u1_4 hc_X1_isDoorClashing_64 rfl) (s2_d (u2_d (u1_5 hc_X1_isDoorClashing_64 rfl) (u1_6 hc_X1_isDoorClashing_64 rfl) rfl) rfl) rfl
theorem dX1_isDoorClashing_71 : decode cX1_isDoorClashing 71 = .ok (.aload_n 0, 1) := o_42 (u1_7 hc_X1_isDoorClashing_64 rfl) rfl
theorem dX1_isDoorClashing_72 : decode cX1_isDoorClashing 72 = .ok (.getfield 9, 3) := o_180 (u1_8 hc_X1_isDoorClashing_64 rfl) (u2_d (u1_9 hc_X1_isDoorClashing_64 rfl) (u1_10 hc_X1_isDoorClashing_64 rfl) rfl) rfl
theorem dX1_isDoorClashing_75 : decode cX1_isDoorClashing 75 = .ok (.iload_n 3, 1) := o_29 (u1_11 hc_X1_isDoorClashing_64 rfl) rfl
theorem dX1_isDoorClashing_76 : decode cX1_isDoorClashing 76 = .ok (.iaload, 1) := o_46 (u1_12 hc_X1_isDoorClashing_64 rfl) rfl
theorem dX1_isDoorClashing_77 : decode cX1_isDoorClashing 77 = .ok (.iconst 5, 1) := o_8 (u1_13 hc_X1_isDoorClashing_64 rfl) rfl
theorem dX1_isDoorClashing_78 : decode cX1_isDoorClashing 78 = .ok (.if_icmp .ne 19, 3) := o_160 (u1_14 hc_X1_isDoorClashing_64 rfl) (s2_d (u2_d (u1_15 hc_X1_isDoorClashing_64 rfl) (u1_16 hc_X1_isDoorClashing_64 rfl) rfl) rfl) rfl
theorem hc_X1_isDoorClashing_80 : ((bL cX1_isDoorClashing).drop 80).take 18 = [19, 42, 180, 0, 18, 29, 46, 28, 160, 0, 9, 42, 29, 182, 0, 121, 87, 132] := by decide +kernel
theorem dX1_isDoorClashing_81 : decode cX1_isDoorClashing 81 = .ok (.aload_n 0, 1) := o_42 (u1_1 hc_X1_isDoorClashing_80 rfl) rfl
theorem dX1_isDoorClashing_82 : decode cX1_isDoorClashing 82 = .ok (.getfield 18, 3) := o_180 (u1_2 hc_X1_isDoorClashing_80 rfl) (u2_d (u1_3 hc_X1_isDoorClashing_80 rfl) (u1_4 hc_X1_isDoorClashing_80 rfl) rfl) rfl
theorem dX1_isDoorClashing_85 : decode cX1_isDoorClashing 85 = .ok (.iload_n 3, 1) := o_29 (u1_5 hc_X1_isDoorClashing_80 rfl) rfl
theorem dX1_isDoorClashing_86 : decode cX1_isDoorClashing 86 = .ok (.iaload, 1) := o_46 (u1_6 hc_X1_isDoorClashing_80 rfl) rfl
theorem dX1_isDoorClashing_87 : decode cX1_isDoorClashing 87 = .ok (.iload_n 2, 1) := o_28 (u1_7 hc_X1_isDoorClashing_80 rfl) rfl
theorem dX1_isDoorClashing_88 : decode cX1_isDoorClashing 88 = .ok (.if_icmp .ne 9, 3) := o_160 (u1_8 hc_X1_isDoorClashing_80 rfl) (s2_d (u2_d (u1_9 hc_X1_isDoorClashing_80 rfl) (u1_10 hc_X1_isDoorClashing_80 rfl) rfl) rfl) rfl
theorem dX1_isDoorClashing_91 : decode cX1_isDoorClashing 91 = .ok (.aload_n 0, 1) := o_42 (u1_11 hc_X1_isDoorClashing_80 rfl) rfl
theorem dX1_isDoorClashing_92 : decode cX1_isDoorClashing 92 = .ok (.iload_n 3, 1) := o_29 (u1_12 hc_X1_isDoorClashing_80 rfl) rfl
theorem dX1_isDoorClashing_93 : decode cX1_isDoorClashing 93 = .ok (.invokevirtual 121, 3) := o_182 (u1_13 hc_X1_isDoorClashing_80 rfl) (u2_d (u1_14 hc_X1_isDoorClashing_80 rfl) (u1_15 hc_X1_isDoorClashing_80 rfl) rfl) rfl
theorem hc_X1_isDoorClashing_96 : ((bL cX1_isDoorClashing).drop 96).take 18 = [87, 132, 3, 1, 167, 255, 210, 42, 180, 0, 118, 5, 161, 0, 5, 4, 172, 42] := by decide +kernel
theorem dX1_isDoorClashing_96 : decode cX1_isDoorClashing 96 = .ok (.pop, 1) := o_87 (u1_0 hc_X1_isDoorClashing_96 rfl) rfl
theorem dX1_isDoorClashing_97 : decode cX1_isDoorClashing 97 = .ok (.iinc 3 1, 3) := o_132 (u1_1 hc_X1_isDoorClashing_96 rfl) (u1_2 hc_X1_isDoorClashing_96 rfl) (s1_d (u1_3 hc_X1_isDoorClashing_96 rfl) rfl) rfl
theorem dX1_isDoorClashing_100 : decode cX1_isDoorClashing 100 = .ok (.goto (-46), 3) := o_167 (u1_4 hc_X1_isDoorClashing_96 rfl) (s2_d (u2_d (u1_5 hc_X1_isDoorClashing_96 rfl) (u1_6 hc_X1_isDoorClashing_96 rfl) rfl) rfl) rfl
theorem dX1_isDoorClashing_103 : decode cX1_isDoorClashing 103 = .ok (.aload_n 0, 1) := o_42 (u1_7 hc_X1_isDoorClashing_96 rfl) rfl
theorem dX1_isDoorClashing_104 : decode cX1_isDoorClashing 104 = .ok (.getfield 118, 3) := o_180 (u1_8 hc_X1_isDoorClashing_96 rfl) (u2_d (u1_9 hc_X1_isDoorClashing_96 rfl) (u1_10 hc_X1_isDoorClashing_96 rfl) rfl) rfl
theorem dX1_isDoorClashing_107 : decode cX1_isDoorClashing 107 = .ok (.iconst 2, 1) := o_5 (u1_11 hc_X1_isDoorClashing_96 rfl) rfl
theorem dX1_isDoorClashing_108 : decode cX1_isDoorClashing 108 = .ok (.if_icmp .lt 5, 3) := o_161 (u1_12 hc_X1_isDoorClashing_96 rfl) (s2_d (u2_d (u1_13 hc_X1_isDoorClashing_96 rfl) (u1_14 hc_X1_isDoorClashing_96 rfl) rfl) rfl) rfl
theorem dX1_isDoorClashing_111 : decode cX1_isDoorClashing 111 = .ok (.iconst 1, 1) := o_4 (u1_15 hc_X1_isDoorClashing_96 rfl) rfl
theorem hc_X1_isDoorClashing_112 : ((bL cX1_isDoorClashing).drop 112).take 18 = [172, 42, 182, 0, 146, 3, 172] := by decide +kernel
theorem dX1_isDoorClashing_112 : decode cX1_isDoorClashing 112 = .ok (.ireturn, 1) := o_172 (u1_0 hc_X1_isDoorClashing_112 rfl) rfl
theorem dX1_isDoorClashing_113 : decode cX1_isDoorClashing 113 = .ok (.aload_n 0, 1) := o_42 (u1_1 hc_X1_isDoorClashing_112 rfl) rfl
theorem dX1_isDoorClashing_114 : decode cX1_isDoorClashing 114 = .ok (.invokevirtual 146, 3) := o_182 (u1_2 hc_X1_isDoorClashing_112 rfl) (u2_d (u1_3 hc_X1_isDoorClashing_112 rfl) (u1_4 hc_X1_isDoorClashing_112 rfl) rfl) rfl
theorem dX1_isDoorClashing_117 : decode cX1_isDoorClashing 117 = .ok (.iconst 0, 1) := o_3 (u1_5 hc_X1_isDoorClashing_112 rfl) rfl
theorem dX1_isDoorClashing_118 : decode cX1_isDoorClashing 118 = .ok (.ireturn, 1) := o_172 (u1_6 hc_X1_isDoorClashing_112 rfl) rfl
theorem hc_X1_isFlagClashing_0 : ((bL cX1_isFlagClashing).drop 0).take 18 = [28, 170, 0, 0, 0, 0, 0, 126, 0, 0, 0, 0, 0, 0, 0, 4, 0, 0] := by decide +kernel
theorem dX1_isFlagClashing_0 : decode cX1_isFlagClashing 0 = .ok (.iload_n 2, 1) := o_28 (u1_0 hc_X1_isFlagClashing_0 rfl) rfl
theorem dX1_isFlagClashing_1 : decode cX1_isFlagClashing 1 = .ok (.tableswitch 126 0 4 #[35, 62, 126, 126, 89], 35) := by decide +kernel
theorem hc_X1_isFlagClashing_32 : ((bL cX1_isFlagClashing).drop 32).take 18 = [0, 0, 0, 89, 29, 4, 160, 0, 21, 42, 42, 27, 4, 4, 182, 0, 140, 182] := by decide +kernel
theorem dX1_isFlagClashing_36 : decode cX1_isFlagClashing 36 = .ok (.iload_n 3, 1) := o_29 (u1_4 hc_X1_isFlagClashing_32 rfl) rfl
theorem dX1_isFlagClashing_37 : decode cX1_isFlagClashing 37 = .ok (.iconst 1, 1) := o_4 (u1_5 hc_X1_isFlagClashing_32 rfl) rfl
theorem dX1_isFlagClashing_38 : decode cX1_isFlagClashing 38 = .ok (.if_icmp .ne 21, 3) := o_160 (u1_6 hc_X1_isFlagClashing_32 rfl) (s2_d (u2_d (u1_7 hc_X1_isFlagClashing_32 rfl) (u1_8 hc_X1_isFlagClashing_32 rfl) rfl) rfl) rfl
theorem dX1_isFlagClashing_41 : decode cX1_isFlagClashing 41 = .ok (.aload_n 0, 1) := o_42 (u1_9 hc_X1_isFlagClashing_32 rfl) rfl
theorem dX1_isFlagClashing_42 : decode cX1_isFlagClashing 42 = .ok (.aload_n 0, 1) := o_42 (u1_10 hc_X1_isFlagClashing_32 rfl) rfl
theorem dX1_isFlagClashing_43 : decode cX1_isFlagClashing 43 = .ok (.iload_n 1, 1) := o_27 (u1_11 hc_X1_isFlagClashing_32 rfl) rfl
theorem dX1_isFlagClashing_44 : decode cX1_isFlagClashing 44 = .ok (.iconst 1, 1) := o_4 (u1_12 hc_X1_isFlagClashing_32 rfl) rfl
theorem dX1_isFlagClashing_45 : decode cX1_isFlagClashing 45 = .ok (.iconst 1, 1) := o_4 (u1_13 hc_X1_isFlagClashing_32 rfl) rfl
theorem dX1_isFlagClashing_46 : decode cX1_isFlagClashing 46 = .ok (.invokevirtual 140, 3) := o_182 (u1_14 hc_X1_isFlagClashing_32 rfl) (u2_d (u1_15 hc_X1_isFlagClashing_32 rfl) (u1_16 hc_X1_isFlagClashing_32 rfl) rfl) rfl
theorem hc_X1_isFlagClashing_48 : ((bL cX1_isFlagClashing).drop 48).take 18 = [140, 182, 0, 121, 153, 0, 7, 4, 167, 0, 72, 3, 167, 0, 68, 29, 4, 160] := by decide +kernel
theorem dX1_isFlagClashing_49 : decode cX1_isFlagClashing 49 = .ok (.invokevirtual 121, 3) := o_182 (u1_1 hc_X1_isFlagClashing_48 rfl) (u2_d (u1_2 hc_X1_isFlagClashing_48 rfl) (u1_3 hc_X1_isFlagClashing_48 rfl) rfl) rfl
theorem dX1_isFlagClashing_52 : decode cX1_isFlagClashing 52 = .ok (.ifCond .eq 7, 3) := o_153 (u1_4 hc_X1_isFlagClashing_48 rfl) (s2_d (u2_d (u1_5 hc_X1_isFlagClashing_48 rfl) (u1_6 hc_X1_isFlagClashing_48 rfl) rfl) rfl) rfl
theorem dX1_isFlagClashing_55 : decode cX1_isFlagClashing 55 = .ok (.iconst 1, 1) := o_4 (u1_7 hc_X1_isFlagClashing_48 rfl) rfl
theorem dX1_isFlagClashing_56 : decode cX1_isFlagClashing 56 = .ok (.goto 72, 3) := o_167 (u1_8 hc_X1_isFlagClashing_48 rfl) (s2_d (u2_d (u1_9 hc_X1_isFlagClashing_48 rfl) (u1_10 hc_X1_isFlagClashing_48 rfl) rfl) rfl) rfl
theorem dX1_isFlagClashing_59 : decode cX1_isFlagClashing 59 = .ok (.iconst 0, 1) := o_3 (u1_11 hc_X1_isFlagClashing_48 rfl) rfl
theorem dX1_isFlagClashing_60 : decode cX1_isFlagClashing 60 = .ok (.goto 68, 3) := o_167 (u1_12 hc_X1_isFlagClashing_48 rfl) (s2_d (u2_d (u1_13 hc_X1_isFlagClashing_48 rfl) (u1_14 hc_X1_isFlagClashing_48 rfl) rfl) rfl) rfl
theorem dX1_isFlagClashing_63 : decode cX1_isFlagClashing 63 = .ok (.iload_n 3, 1) := o_29 (u1_15 hc_X1_isFlagClashing_48 rfl) rfl
theorem hc_X1_isFlagClashing_64 : ((bL cX1_isFlagClashing).drop 64).take 18 = [4, 160, 0, 21, 42, 42, 27, 3, 4, 182, 0, 140, 182, 0, 121, 153, 0, 7] := by decide +kernel
theorem dX1_isFlagClashing_64 : decode cX1_isFlagClashing 64 = .ok (.iconst 1, 1) := o_4 (u1_0 hc_X1_isFlagClashing_64 rfl) rfl
theorem dX1_isFlagClashing_65 : decode cX1_isFlagClashing 65 = .ok (.if_icmp .ne 21, 3) := o_160 (u1_1 hc_X1_isFlagClashing_64 rfl) (s2_d (u2_d (u1_2 hc_X1_isFlagClashing_64 rfl) (u1_3 hc_X1_isFlagClashing_64 rfl) rfl) rfl) rfl
theorem dX1_isFlagClashing_68 : decode cX1_isFlagClashing 68 = .ok (.aload_n 0, 1) := o_42 (u1_4 hc_X1_isFlagClashing_64 rfl) rfl
theorem dX1_isFlagClashing_69 : decode cX1_isFlagClashing 69 = .ok (.aload_n 0, 1) := o_42 (u1_5 hc_X1_isFlagClashing_64 rfl) rfl
theorem dX1_isFlagClashing_70 : decode cX1_isFlagClashing 70 = .ok (.iload_n 1, 1) := o_27 (u1_6 hc_X1_isFlagClashing_64 rfl) rfl
theorem dX1_isFlagClashing_71 : decode cX1_isFlagClashing 71 = .ok (.iconst 0, 1) := o_3 (u1_7 hc_X1_isFlagClashing_64 rfl) rfl
theorem dX1_isFlagClashing_72 : decode cX1_isFlagClashing 72 = .ok (.iconst 1, 1) := o_4 (u1_8 hc_X1_isFlagClashing_64 rfl) rfl
theorem dX1_isFlagClashing_73 : decode cX1_isFlagClashing 73 = .ok (.invokevirtual 140, 3) := o_182 (u1_9 hc_X1_isFlagClashing_64 rfl) (u2_d (u1_10 hc_X1_isFlagClashing_64 rfl) (u1_11 hc_X1_isFlagClashing_64 rfl) rfl) rfl
theorem dX1_isFlagClashing_76 : decode cX1_isFlagClashing 76 = .ok (.invokevirtual 121, 3) := o_182 (u1_12 hc_X1_isFlagClashing_64 rfl) (u2_d (u1_13 hc_X1_isFlagClashing_64 rfl) (u1_14 hc_X1_isFlagClashing_64 rfl) rfl) rfl
theorem dX1_isFlagClashing_79 : decode cX1_isFlagClashing 79 = .ok (.ifCond .eq 7, 3) := o_153 (u1_15 hc_X1_isFlagClashing_64 rfl) (s2_d (u2_d (u1_16 hc_X1_isFlagClashing_64 rfl) (u1_17 hc_X1_isFlagClashing_64 rfl) rfl) rfl) rfl
theorem hc_X1_isFlagClashing_80 : ((bL cX1_isFlagClashing).drop 80).take 18 = [0, 7, 4, 167, 0, 45, 3, 167, 0, 41, 29, 154, 0, 32, 42, 180, 0, 52] := by decide +kernel
theorem dX1_isFlagClashing_82 : decode cX1_isFlagClashing 82 = .ok (.iconst 1, 1) := o_4 (u1_2 hc_X1_isFlagClashing_80 rfl) rfl
theorem dX1_isFlagClashing_83 : decode cX1_isFlagClashing 83 = .ok (.goto 45, 3) := o_167 (u1_3 hc_X1_isFlagClashing_80 rfl) (s2_d (u2_d (u1_4 hc_X1_isFlagClashing_80 rfl) (u1_5 hc_X1_isFlagClashing_80 rfl) rfl) rfl) rfl
theorem dX1_isFlagClashing_86 : decode cX1_isFlagClashing 86 = .ok (.iconst 0, 1) := o_3 (u1_6 hc_X1_isFlagClashing_80 rfl) rfl
theorem dX1_isFlagClashing_87 : decode cX1_isFlagClashing 87 = .ok (.goto 41, 3) := o_167 (u1_7 hc_X1_isFlagClashing_80 rfl) (s2_d (u2_d (u1_8 hc_X1_isFlagClashing_80 rfl) (u1_9 hc_X1_isFlagClashing_80 rfl) rfl) rfl) rfl
theorem dX1_isFlagClashing_90 : decode cX1_isFlagClashing 90 = .ok (.iload_n 3, 1) := o_29 (u1_10 hc_X1_isFlagClashing_80 rfl) rfl
theorem dX1_isFlagClashing_91 : decode cX1_isFlagClashing 91 = .ok (.ifCond .ne 32, 3) := o_154 (u1_11 hc_X1_isFlagClashing_80 rfl) (s2_d (u2_d (u1_12 hc_X1_isFlagClashing_80 rfl) (u1_13 hc_X1_isFlagClashing_80 rfl) rfl) rfl) rfl
theorem dX1_isFlagClashing_94 : decode cX1_isFlagClashing 94 = .ok (.aload_n 0, 1) := o_42 (u1_14 hc_X1_isFlagClashing_80 rfl) rfl
theorem dX1_isFlagClashing_95 : decode cX1_isFlagClashing 95 = .ok (.getfield 52, 3) := o_180 (u1_15 hc_X1_isFlagClashing_80 rfl) (u2_d (u1_16 hc_X1_isFlagClashing_80 rfl) (u1_17 hc_X1_isFlagClashing_80 rfl) rfl) rfl
theorem hc_X1_isFlagClashing_96 : ((bL cX1_isFlagClashing).drop 96).take 18 = [0, 52, 27, 182, 0, 149, 6, 160, 0, 20, 42, 42, 180, 0, 28, 27, 46, 182] := by decide +kernel
theorem dX1_isFlagClashing_98 : decode cX1_isFlagClashing 98 = .ok (.iload_n 1, 1) := o_27 (u1_2 hc_X1_isFlagClashing_96 rfl) rfl
theorem dX1_isFlagClashing_99 : decode cX1_isFlagClashing 99 = .ok (.invokevirtual 149, 3) := o_182 (u1_3 hc_X1_isFlagClashing_96 rfl) (u2_d (u1_4 hc_X1_isFlagClashing_96 rfl) (u1_5 hc_X1_isFlagClashing_96 rfl) rfl) rfl
theorem dX1_isFlagClashing_102 : decode cX1_isFlagClashing 102 = .ok (.iconst 3, 1) := o_6 (u1_6 hc_X1_isFlagClashing_96 rfl) rfl
theorem dX1_isFlagClashing_103 : decode cX1_isFlagClashing 103 = .ok (.if_icmp .ne 20, 3) := o_160 (u1_7 hc_X1_isFlagClashing_96 rfl) (s2_d (u2_d (u1_8 hc_X1_isFlagClashing_96 rfl) (u1_9 hc_X1_isFlagClashing_96 rfl) rfl) rfl) rfl
theorem dX1_isFlagClashing_106 : decode cX1_isFlagClashing 106 = .ok (.aload_n 0, 1) := o_42 (u1_10 hc_X1_isFlagClashing_96 rfl) rfl
theorem dX1_isFlagClashing_107 : decode cX1_isFlagClashing 107 = .ok (.aload_n 0, 1) := o_42 (u1_11 hc_X1_isFlagClashing_96 rfl) rfl
theorem dX1_isFlagClashing_108 : decode cX1_isFlagClashing 108 = .ok (.getfield 28, 3) := o_180 (u1_12 hc_X1_isFlagClashing_96 rfl) (u2_d (u1_13 hc_X1_isFlagClashing_96 rfl) (u1_14 hc_X1_isFlagClashing_96 rfl) rfl) rfl
theorem dX1_isFlagClashing_111 : decode cX1_isFlagClashing 111 = .ok (.iload_n 1, 1) := o_27 (u1_15 hc_X1_isFlagClashing_96 rfl) rfl
theorem hc_X1_isFlagClashing_112 : ((bL cX1_isFlagClashing).drop 112).take 18 = [46, 182, 0, 121, 153, 0, 7, 4, 167, 0, 8, 3, 167, 0, 4, 3, 172] := by decide +kernel
theorem dX1_isFlagClashing_112 : decode cX1_isFlagClashing 112 = .ok (.iaload, 1) := o_46 (u1_0 hc_X1_isFlagClashing_112 rfl) rfl
theorem dX1_isFlagClashing_113 : decode cX1_isFlagClashing 113 = .ok (.invokevirtual 121, 3) := o_182 (u1_1 hc_X1_isFlagClashing_112 rfl) (u2_d (u1_2 hc_X1_isFlagClashing_112 rfl) (u1_3 hc_X1_isFlagClashing_112 rfl) rfl) rfl
theorem dX1_isFlagClashing_116 : decode cX1_isFlagClashing 116 = .ok (.ifCond .eq 7, 3) := o_153 (u1_4 hc_X1_isFlagClashing_112 rfl) (s2_d (u2_d (u1_5 hc_X1_isFlagClashing_112 rfl) (u1_6 hc_X1_isFlagClashing_112 rfl) rfl) rfl) rfl
theorem dX1_isFlagClashing_119 : decode cX1_isFlagClashing 119 = .ok (.iconst 1, 1) := o_4 (u1_7 hc_X1_isFlagClashing_112 rfl) rfl
theorem dX1_isFlagClashing_120 : decode cX1_isFlagClashing 120 = .ok (.goto 8, 3) := o_167 (u1_8 hc_X1_isFlagClashing_112 rfl) (s2_d (u2_d (u1_9 hc_X1_isFlagClashing_112 rfl) (u1_10 hc_X1_isFlagClashing_112 rfl) rfl) rfl) rfl
theorem dX1_isFlagClashing_123 : decode cX1_isFlagClashing 123 = .ok (.iconst 0, 1) := o_3 (u1_11 hc_X1_isFlagClashing_112 rfl) rfl
theorem dX1_isFlagClashing_124 : decode cX1_isFlagClashing 124 = .ok (.goto 4, 3) := o_167 (u1_12 hc_X1_isFlagClashing_112 rfl) (s2_d (u2_d (u1_13 hc_X1_isFlagClashing_112 rfl) (u1_14 hc_X1_isFlagClashing_112 rfl) rfl) rfl) rfl
theorem dX1_isFlagClashing_127 : decode cX1_isFlagClashing 127 = .ok (.iconst 0, 1) := o_3 (u1_15 hc_X1_isFlagClashing_112 rfl) rfl
theorem hc_X1_isFlagClashing_128 : ((bL cX1_isFlagClashing).drop 128).take 18 = [172] := by decide +kernel
theorem dX1_isFlagClashing_128 : decode cX1_isFlagClashing 128 = .ok (.ireturn, 1) := o_172 (u1_0 hc_X1_isFlagClashing_128 rfl) rfl
theorem hc_X1_saying_0 : ((bL cX1_saying).drop 0).take 18 = [42, 180, 0, 34, 27, 16, 6, 104, 28, 96, 46, 54, 4, 21, 4, 16, 247, 159] := by decide +kernel
theorem dX1_saying_0 : decode cX1_saying 0 = .ok (.aload_n 0, 1) := o_42 (u1_0 hc_X1_saying_0 rfl) rfl
theorem dX1_saying_1 : decode cX1_saying 1 = .ok (.getfield 34, 3) := o_180 (u1_1 hc_X1_saying_0 rfl) (u2_d (u1_2 hc_X1_saying_0 rfl) (u1_3 hc_X1_saying_0 rfl) rfl) rfl
theorem dX1_saying_4 : decode cX1_saying 4 = .ok (.iload_n 1, 1) := o_27 (u1_4 hc_X1_saying_0 rfl) rfl
theorem dX1_saying_5 : decode cX1_saying 5 = .ok (.bipush 6, 2) := o_16 (u1_5 hc_X1_saying_0 rfl) (s1_d (u1_6 hc_X1_saying_0 rfl) rfl) rfl
theorem dX1_saying_7 : decode cX1_saying 7 = .ok (.imul, 1) := o_104 (u1_7 hc_X1_saying_0 rfl) rfl
theorem dX1_saying_8 : decode cX1_saying 8 = .ok (.iload_n 2, 1) := o_28 (u1_8 hc_X1_saying_0 rfl) rfl
theorem dX1_saying_9 : decode cX1_saying 9 = .ok (.iadd, 1) := o_96 (u1_9 hc_X1_saying_0 rfl) rfl
theorem dX1_saying_10 : decode cX1_saying 10 = .ok (.iaload, 1) := o_46 (u1_10 hc_X1_saying_0 rfl) rfl
theorem dX1_saying_11 : decode cX1_saying 11 = .ok (.istore 4, 2) := o_54 (u1_11 hc_X1_saying_0 rfl) (u1_12 hc_X1_saying_0 rfl) rfl
theorem dX1_saying_13 : decode cX1_saying 13 = .ok (.iload 4, 2) := o_21 (u1_13 hc_X1_saying_0 rfl) (u1_14 hc_X1_saying_0 rfl) rfl
theorem dX1_saying_15 : decode cX1_saying 15 = .ok (.bipush (-9), 2) := o_16 (u1_15 hc_X1_saying_0 rfl) (s1_d (u1_16 hc_X1_saying_0 rfl) rfl) rfl
theorem hc_X1_saying_16 : ((bL cX1_saying).drop 16).take 18 = [247, 159, 0, 19, 42, 180, 0, 21, 21, 4, 46, 29, 160, 0, 8, 21, 4, 167] := by decide +kernel
theorem dX1_saying_17 : decode cX1_saying 17 = .ok (.if_icmp .eq 19, 3) := o_159 (u1_1 hc_X1_saying_16 rfl) (s2_d (u2_d (u1_2 hc_X1_saying_16 rfl) (u1_3 hc_X1_saying_16 rfl) rfl) rfl) rfl
theorem dX1_saying_20 : decode cX1_saying 20 = .ok (.aload_n 0, 1) := o_42 (u1_4 hc_X1_saying_16 rfl) rfl
theorem dX1_saying_21 : decode cX1_saying 21 = .ok (.getfield 21, 3) := o_180 (u1_5 hc_X1_saying_16 rfl) (u2_d (u1_6 hc_X1_saying_16 rfl) (u1_7 hc_X1_saying_16 rfl) rfl) rfl
theorem dX1_saying_24 : decode cX1_saying 24 = .ok (.iload 4, 2) := o_21 (u1_8 hc_X1_saying_16 rfl) (u1_9 hc_X1_saying_16 rfl) rfl
theorem dX1_saying_26 : decode cX1_saying 26 = .ok (.iaload, 1) := o_46 (u1_10 hc_X1_saying_16 rfl) rfl
theorem dX1_saying_27 : decode cX1_saying 27 = .ok (.iload_n 3, 1) := o_29 (u1_11 hc_X1_saying_16 rfl) rfl
theorem dX1_saying_28 : decode cX1_saying 28 = .ok (.if_icmp .ne 8, 3) := o_160 (u1_12 hc_X1_saying_16 rfl) (s2_d (u2_d (u1_13 hc_X1_saying_16 rfl) (u1_14 hc_X1_saying_16 rfl) rfl) rfl) rfl
theorem dX1_saying_31 : decode cX1_saying 31 = .ok (.iload 4, 2) := o_21 (u1_15 hc_X1_saying_16 rfl) (u1_16 hc_X1_saying_16 rfl) rfl
theorem hc_X1_saying_32 : ((bL cX1_saying).drop 32).take 18 = [4, 167, 0, 5, 16, 247, 172] := by decide +kernel
theorem dX1_saying_33 : decode cX1_saying 33 = .ok (.goto 5, 3) := o_167 (u1_1 hc_X1_saying_32 rfl) (s2_d (u2_d (u1_2 hc_X1_saying_32 rfl) (u1_3 hc_X1_saying_32 rfl) rfl) rfl) rfl
theorem dX1_saying_36 : decode cX1_saying 36 = .ok (.bipush (-9), 2) := o_16 (u1_4 hc_X1_saying_32 rfl) (s1_d (u1_5 hc_X1_saying_32 rfl) rfl) rfl
theorem dX1_saying_38 : decode cX1_saying 38 = .ok (.ireturn, 1) := o_172 (u1_6 hc_X1_saying_32 rfl) rfl
theorem hc_X2_init_0 : ((bL cX2_init).drop 0).take 18 = [42, 183, 0, 3, 42, 16, 100, 188, 10, 181, 0, 9, 42, 43, 181, 0, 15, 177] := by decide +kernel
theorem dX2_init_0 : decode cX2_init 0 = .ok (.aload_n 0, 1) := o_42 (u1_0 hc_X2_init_0 rfl) rfl
theorem dX2_init_1 : decode cX2_init 1 = .ok (.invokespecial 3, 3) := o_183 (u1_1 hc_X2_init_0 rfl) (u2_d (u1_2 hc_X2_init_0 rfl) (u1_3 hc_X2_init_0 rfl) rfl) rfl
theorem dX2_init_4 : decode cX2_init 4 = .ok (.aload_n 0, 1) := o_42 (u1_4 hc_X2_init_0 rfl) rfl
theorem dX2_init_5 : decode cX2_init 5 = .ok (.bipush 100, 2) := o_16 (u1_5 hc_X2_init_0 rfl) (s1_d (u1_6 hc_X2_init_0 rfl) rfl) rfl
theorem dX2_init_7 : decode cX2_init 7 = .ok (.newarray .int, 2) := o_188_10 (u1_7 hc_X2_init_0 rfl) (u1_8 hc_X2_init_0 rfl) rfl
theorem dX2_init_9 : decode cX2_init 9 = .ok (.putfield 9, 3) := o_181 (u1_9 hc_X2_init_0 rfl) (u2_d (u1_10 hc_X2_init_0 rfl) (u1_11 hc_X2_init_0 rfl) rfl) rfl
theorem dX2_init_12 : decode cX2_init 12 = .ok (.aload_n 0, 1) := o_42 (u1_12 hc_X2_init_0 rfl) rfl
theorem dX2_init_13 : decode cX2_init 13 = .ok (.aload_n 1, 1) := o_43 (u1_13 hc_X2_init_0 rfl) rfl
theorem dX2_init_14 : decode cX2_init 14 = .ok (.putfield 15, 3) := o_181 (u1_14 hc_X2_init_0 rfl) (u2_d (u1_15 hc_X2_init_0 rfl) (u1_16 hc_X2_init_0 rfl) rfl) rfl
theorem hc_X2_init_16 : ((bL cX2_init).drop 16).take 18 = [15, 177] := by decide +kernel
theorem dX2_init_17 : decode cX2_init 17 = .ok (.return_, 1) := o_177 (u1_1 hc_X2_init_16 rfl) rfl
theorem hc_X2_clearTrace_0 : ((bL cX2_clearTrace).drop 0).take 18 = [42, 3, 181, 0, 19, 177] := by decide +kernel
theorem dX2_clearTrace_0 : decode cX2_clearTrace 0 = .ok (.aload_n 0, 1) := o_42 (u1_0 hc_X2_clearTrace_0 rfl) rfl
theorem dX2_clearTrace_1 : decode cX2_clearTrace 1 = .ok (.iconst 0, 1) := o_3 (u1_1 hc_X2_clearTrace_0 rfl) rfl
theorem dX2_clearTrace_2 : decode cX2_clearTrace 2 = .ok (.putfield 19, 3) := o_181 (u1_2 hc_X2_clearTrace_0 rfl) (u2_d (u1_3 hc_X2_clearTrace_0 rfl) (u1_4 hc_X2_clearTrace_0 rfl) rfl) rfl
theorem dX2_clearTrace_5 : decode cX2_clearTrace 5 = .ok (.return_, 1) := o_177 (u1_5 hc_X2_clearTrace_0 rfl) rfl
theorem hc_X2_weigh_0 : ((bL cX2_weigh).drop 0).take 18 = [42, 43, 28, 3, 182, 0, 23, 172] := by decide +kernel
theorem dX2_weigh_0 : decode cX2_weigh 0 = .ok (.aload_n 0, 1) := o_42 (u1_0 hc_X2_weigh_0 rfl) rfl
theorem dX2_weigh_1 : decode cX2_weigh 1 = .ok (.aload_n 1, 1) := o_43 (u1_1 hc_X2_weigh_0 rfl) rfl
theorem dX2_weigh_2 : decode cX2_weigh 2 = .ok (.iload_n 2, 1) := o_28 (u1_2 hc_X2_weigh_0 rfl) rfl
theorem dX2_weigh_3 : decode cX2_weigh 3 = .ok (.iconst 0, 1) := o_3 (u1_3 hc_X2_weigh_0 rfl) rfl
theorem dX2_weigh_4 : decode cX2_weigh 4 = .ok (.invokevirtual 23, 3) := o_182 (u1_4 hc_X2_weigh_0 rfl) (u2_d (u1_5 hc_X2_weigh_0 rfl) (u1_6 hc_X2_weigh_0 rfl) rfl) rfl
theorem dX2_weigh_7 : decode cX2_weigh 7 = .ok (.ireturn, 1) := o_172 (u1_7 hc_X2_weigh_0 rfl) rfl
theorem hc_X2_weighTraced_0 : ((bL cX2_weighTraced).drop 0).take 18 = [42, 4, 181, 0, 27, 42, 43, 28, 3, 182, 0, 23, 62, 42, 3, 181, 0, 27] := by decide +kernel
theorem dX2_weighTraced_0 : decode cX2_weighTraced 0 = .ok (.aload_n 0, 1) := o_42 (u1_0 hc_X2_weighTraced_0 rfl) rfl
theorem dX2_weighTraced_1 : decode cX2_weighTraced 1 = .ok (.iconst 1, 1) := o_4 (u1_1 hc_X2_weighTraced_0 rfl) rfl
theorem dX2_weighTraced_2 : decode cX2_weighTraced 2 = .ok (.putfield 27, 3) := o_181 (u1_2 hc_X2_weighTraced_0 rfl) (u2_d (u1_3 hc_X2_weighTraced_0 rfl) (u1_4 hc_X2_weighTraced_0 rfl) rfl) rfl
theorem dX2_weighTraced_5 : decode cX2_weighTraced 5 = .ok (.aload_n 0, 1) := o_42 (u1_5 hc_X2_weighTraced_0 rfl) rfl
theorem dX2_weighTraced_6 : decode cX2_weighTraced 6 = .ok (.aload_n 1, 1) := o_43 (u1_6 hc_X2_weighTraced_0 rfl) rfl
theorem dX2_weighTraced_7 : decode cX2_weighTraced 7 = .ok (.iload_n 2, 1) := o_28 (u1_7 hc_X2_weighTraced_0 rfl) rfl
theorem dX2_weighTraced_8 : decode cX2_weighTraced 8 = .ok (.iconst 0, 1) := o_3 (u1_8 hc_X2_weighTraced_0 rfl) rfl
theorem dX2_weighTraced_9 : decode cX2_weighTraced 9 = .ok (.invokevirtual 23, 3) := o_182 (u1_9 hc_X2_weighTraced_0 rfl) (u2_d (u1_10 hc_X2_weighTraced_0 rfl) (u1_11 hc_X2_weighTraced_0 rfl) rfl) rfl
theorem dX2_weighTraced_12 : decode cX2_weighTraced 12 = .ok (.istore_n 3, 1) := o_62 (u1_12 hc_X2_weighTraced_0 rfl) rfl
theorem dX2_weighTraced_13 : decode cX2_weighTraced 13 = .ok (.aload_n 0, 1) := o_42 (u1_13 hc_X2_weighTraced_0 rfl) rfl
theorem dX2_weighTraced_14 : decode cX2_weighTraced 14 = .ok (.iconst 0, 1) := o_3 (u1_14 hc_X2_weighTraced_0 rfl) rfl
theorem dX2_weighTraced_15 : decode cX2_weighTraced 15 = .ok (.putfield 27, 3) := o_181 (u1_15 hc_X2_weighTraced_0 rfl) (u2_d (u1_16 hc_X2_weighTraced_0 rfl) (u1_17 hc_X2_weighTraced_0 rfl) rfl) rfl
theorem hc_X2_weighTraced_16 : ((bL cX2_weighTraced).drop 16).take 18 = [0, 27, 29, 172] := by decide +kernel
theorem dX2_weighTraced_18 : decode cX2_weighTraced 18 = .ok (.iload_n 3, 1) := o_29 (u1_2 hc_X2_weighTraced_16 rfl) rfl
theorem dX2_weighTraced_19 : decode cX2_weighTraced 19 = .ok (.ireturn, 1) := o_172 (u1_3 hc_X2_weighTraced_16 rfl) rfl
theorem hc_X2_weighAllOf_0 : ((bL cX2_weighAllOf).drop 0).take 18 = [3, 62, 3, 54, 4, 21, 4, 42, 180, 0, 15, 180, 0, 31, 162, 0, 30, 43] := by decide +kernel
theorem dX2_weighAllOf_0 : decode cX2_weighAllOf 0 = .ok (.iconst 0, 1) := o_3 (u1_0 hc_X2_weighAllOf_0 rfl) rfl
theorem dX2_weighAllOf_1 : decode cX2_weighAllOf 1 = .ok (.istore_n 3, 1) := o_62 (u1_1 hc_X2_weighAllOf_0 rfl) rfl
theorem dX2_weighAllOf_2 : decode cX2_weighAllOf 2 = .ok (.iconst 0, 1) := o_3 (u1_2 hc_X2_weighAllOf_0 rfl) rfl
theorem dX2_weighAllOf_3 : decode cX2_weighAllOf 3 = .ok (.istore 4, 2) := o_54 (u1_3 hc_X2_weighAllOf_0 rfl) (u1_4 hc_X2_weighAllOf_0 rfl) rfl
theorem dX2_weighAllOf_5 : decode cX2_weighAllOf 5 = .ok (.iload 4, 2) := o_21 (u1_5 hc_X2_weighAllOf_0 rfl) (u1_6 hc_X2_weighAllOf_0 rfl) rfl
theorem dX2_weighAllOf_7 : decode cX2_weighAllOf 7 = .ok (.aload_n 0, 1) := o_42 (u1_7 hc_X2_weighAllOf_0 rfl) rfl
theorem dX2_weighAllOf_8 : decode cX2_weighAllOf 8 = .ok (.getfield 15, 3) := o_180 (u1_8 hc_X2_weighAllOf_0 rfl) (u2_d (u1_9 hc_X2_weighAllOf_0 rfl) (u1_10 hc_X2_weighAllOf_0 rfl) rfl) rfl
theorem dX2_weighAllOf_11 : decode cX2_weighAllOf 11 = .ok (.getfield 31, 3) := o_180 (u1_11 hc_X2_weighAllOf_0 rfl) (u2_d (u1_12 hc_X2_weighAllOf_0 rfl) (u1_13 hc_X2_weighAllOf_0 rfl) rfl) rfl
theorem dX2_weighAllOf_14 : decode cX2_weighAllOf 14 = .ok (.if_icmp .ge 30, 3) := o_162 (u1_14 hc_X2_weighAllOf_0 rfl) (s2_d (u2_d (u1_15 hc_X2_weighAllOf_0 rfl) (u1_16 hc_X2_weighAllOf_0 rfl) rfl) rfl) rfl
theorem hc_X2_weighAllOf_16 : ((bL cX2_weighAllOf).drop 16).take 18 = [30, 43, 21, 4, 182, 0, 36, 28, 160, 0, 14, 29, 42, 43, 21, 4, 3, 182] := by decide +kernel
theorem dX2_weighAllOf_17 : decode cX2_weighAllOf 17 = .ok (.aload_n 1, 1) := o_43 (u1_1 hc_X2_weighAllOf_16 rfl) rfl
theorem dX2_weighAllOf_18 : decode cX2_weighAllOf 18 = .ok (.iload 4, 2) := o_21 (u1_2 hc_X2_weighAllOf_16 rfl) (u1_3 hc_X2_weighAllOf_16 rfl) rfl
theorem dX2_weighAllOf_20 : decode cX2_weighAllOf 20 = .ok (.invokevirtual 36, 3) := o_182 (u1_4 hc_X2_weighAllOf_16 rfl) (u2_d (u1_5 hc_X2_weighAllOf_16 rfl) (u1_6 hc_X2_weighAllOf_16 rfl) rfl) rfl
theorem dX2_weighAllOf_23 : decode cX2_weighAllOf 23 = .ok (.iload_n 2, 1) := o_28 (u1_7 hc_X2_weighAllOf_16 rfl) rfl
theorem dX2_weighAllOf_24 : decode cX2_weighAllOf 24 = .ok (.if_icmp .ne 14, 3) := o_160 (u1_8 hc_X2_weighAllOf_16 rfl) (s2_d (u2_d (u1_9 hc_X2_weighAllOf_16 rfl) (u1_10 hc_X2_weighAllOf_16 rfl) rfl) rfl) rfl
