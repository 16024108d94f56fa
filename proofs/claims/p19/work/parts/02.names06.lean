theorem dX12_init_34 : decode cX12_init 34 = .ok (.putfield 19, 3) := o_181 (u1_2 hc_X12_init_32 rfl) (u2_d (u1_3 hc_X12_init_32 rfl) (u1_4 hc_X12_init_32 rfl) rfl) rfl
theorem dX12_init_37 : decode cX12_init 37 = .ok (.aload_n 0, 1) := o_42 (u1_5 hc_X12_init_32 rfl) rfl
theorem dX12_init_38 : decode cX12_init 38 = .ok (.bipush 30, 2) := o_16 (u1_6 hc_X12_init_32 rfl) (s1_d (u1_7 hc_X12_init_32 rfl) rfl) rfl
theorem dX12_init_40 : decode cX12_init 40 = .ok (.newarray .int, 2) := o_188_10 (u1_8 hc_X12_init_32 rfl) (u1_9 hc_X12_init_32 rfl) rfl
theorem dX12_init_42 : decode cX12_init 42 = .ok (.putfield 22, 3) := o_181 (u1_10 hc_X12_init_32 rfl) (u2_d (u1_11 hc_X12_init_32 rfl) (u1_12 hc_X12_init_32 rfl) rfl) rfl
theorem dX12_init_45 : decode cX12_init 45 = .ok (.aload_n 0, 1) := o_42 (u1_13 hc_X12_init_32 rfl) rfl
theorem dX12_init_46 : decode cX12_init 46 = .ok (.sipush 200, 3) := o_17 (u1_14 hc_X12_init_32 rfl) (s2_d (u2_d (u1_15 hc_X12_init_32 rfl) (u1_16 hc_X12_init_32 rfl) rfl) rfl) rfl
theorem hc_X12_init_48 : ((bL cX12_init).drop 48).take 18 = [200, 188, 10, 181, 0, 25, 42, 17, 0, 200, 188, 10, 181, 0, 28, 42, 17, 0] := by decide +kernel
theorem dX12_init_49 : decode cX12_init 49 = .ok (.newarray .int, 2) := o_188_10 (u1_1 hc_X12_init_48 rfl) (u1_2 hc_X12_init_48 rfl) rfl
theorem dX12_init_51 : decode cX12_init 51 = .ok (.putfield 25, 3) := o_181 (u1_3 hc_X12_init_48 rfl) (u2_d (u1_4 hc_X12_init_48 rfl) (u1_5 hc_X12_init_48 rfl) rfl) rfl
theorem dX12_init_54 : decode cX12_init 54 = .ok (.aload_n 0, 1) := o_42 (u1_6 hc_X12_init_48 rfl) rfl
theorem dX12_init_55 : decode cX12_init 55 = .ok (.sipush 200, 3) := o_17 (u1_7 hc_X12_init_48 rfl) (s2_d (u2_d (u1_8 hc_X12_init_48 rfl) (u1_9 hc_X12_init_48 rfl) rfl) rfl) rfl
theorem dX12_init_58 : decode cX12_init 58 = .ok (.newarray .int, 2) := o_188_10 (u1_10 hc_X12_init_48 rfl) (u1_11 hc_X12_init_48 rfl) rfl
theorem dX12_init_60 : decode cX12_init 60 = .ok (.putfield 28, 3) := o_181 (u1_12 hc_X12_init_48 rfl) (u2_d (u1_13 hc_X12_init_48 rfl) (u1_14 hc_X12_init_48 rfl) rfl) rfl
theorem dX12_init_63 : decode cX12_init 63 = .ok (.aload_n 0, 1) := o_42 (u1_15 hc_X12_init_48 rfl) rfl
theorem hc_X12_init_64 : ((bL cX12_init).drop 64).take 18 = [17, 0, 200, 188, 10, 181, 0, 31, 42, 17, 0, 200, 188, 10, 181, 0, 34, 42] := by decide +kernel
theorem dX12_init_64 : decode cX12_init 64 = .ok (.sipush 200, 3) := o_17 (u1_0 hc_X12_init_64 rfl) (s2_d (u2_d (u1_1 hc_X12_init_64 rfl) (u1_2 hc_X12_init_64 rfl) rfl) rfl) rfl
theorem dX12_init_67 : decode cX12_init 67 = .ok (.newarray .int, 2) := o_188_10 (u1_3 hc_X12_init_64 rfl) (u1_4 hc_X12_init_64 rfl) rfl
theorem dX12_init_69 : decode cX12_init 69 = .ok (.putfield 31, 3) := o_181 (u1_5 hc_X12_init_64 rfl) (u2_d (u1_6 hc_X12_init_64 rfl) (u1_7 hc_X12_init_64 rfl) rfl) rfl
theorem dX12_init_72 : decode cX12_init 72 = .ok (.aload_n 0, 1) := o_42 (u1_8 hc_X12_init_64 rfl) rfl
theorem dX12_init_73 : decode cX12_init 73 = .ok (.sipush 200, 3) := o_17 (u1_9 hc_X12_init_64 rfl) (s2_d (u2_d (u1_10 hc_X12_init_64 rfl) (u1_11 hc_X12_init_64 rfl) rfl) rfl) rfl
theorem dX12_init_76 : decode cX12_init 76 = .ok (.newarray .int, 2) := o_188_10 (u1_12 hc_X12_init_64 rfl) (u1_13 hc_X12_init_64 rfl) rfl
theorem dX12_init_78 : decode cX12_init 78 = .ok (.putfield 34, 3) := o_181 (u1_14 hc_X12_init_64 rfl) (u2_d (u1_15 hc_X12_init_64 rfl) (u1_16 hc_X12_init_64 rfl) rfl) rfl
theorem hc_X12_init_80 : ((bL cX12_init).drop 80).take 18 = [34, 42, 17, 0, 200, 188, 4, 181, 0, 37, 42, 17, 0, 200, 188, 10, 181, 0] := by decide +kernel
theorem dX12_init_81 : decode cX12_init 81 = .ok (.aload_n 0, 1) := o_42 (u1_1 hc_X12_init_80 rfl) rfl
theorem dX12_init_82 : decode cX12_init 82 = .ok (.sipush 200, 3) := o_17 (u1_2 hc_X12_init_80 rfl) (s2_d (u2_d (u1_3 hc_X12_init_80 rfl) (u1_4 hc_X12_init_80 rfl) rfl) rfl) rfl
theorem dX12_init_85 : decode cX12_init 85 = .ok (.newarray .boolean, 2) := o_188_4 (u1_5 hc_X12_init_80 rfl) (u1_6 hc_X12_init_80 rfl) rfl
theorem dX12_init_87 : decode cX12_init 87 = .ok (.putfield 37, 3) := o_181 (u1_7 hc_X12_init_80 rfl) (u2_d (u1_8 hc_X12_init_80 rfl) (u1_9 hc_X12_init_80 rfl) rfl) rfl
theorem dX12_init_90 : decode cX12_init 90 = .ok (.aload_n 0, 1) := o_42 (u1_10 hc_X12_init_80 rfl) rfl
theorem dX12_init_91 : decode cX12_init 91 = .ok (.sipush 200, 3) := o_17 (u1_11 hc_X12_init_80 rfl) (s2_d (u2_d (u1_12 hc_X12_init_80 rfl) (u1_13 hc_X12_init_80 rfl) rfl) rfl) rfl
theorem dX12_init_94 : decode cX12_init 94 = .ok (.newarray .int, 2) := o_188_10 (u1_14 hc_X12_init_80 rfl) (u1_15 hc_X12_init_80 rfl) rfl
theorem hc_X12_init_96 : ((bL cX12_init).drop 96).take 18 = [181, 0, 41, 42, 16, 30, 188, 10, 181, 0, 44, 42, 16, 30, 188, 10, 181, 0] := by decide +kernel
theorem dX12_init_96 : decode cX12_init 96 = .ok (.putfield 41, 3) := o_181 (u1_0 hc_X12_init_96 rfl) (u2_d (u1_1 hc_X12_init_96 rfl) (u1_2 hc_X12_init_96 rfl) rfl) rfl
theorem dX12_init_99 : decode cX12_init 99 = .ok (.aload_n 0, 1) := o_42 (u1_3 hc_X12_init_96 rfl) rfl
theorem dX12_init_100 : decode cX12_init 100 = .ok (.bipush 30, 2) := o_16 (u1_4 hc_X12_init_96 rfl) (s1_d (u1_5 hc_X12_init_96 rfl) rfl) rfl
theorem dX12_init_102 : decode cX12_init 102 = .ok (.newarray .int, 2) := o_188_10 (u1_6 hc_X12_init_96 rfl) (u1_7 hc_X12_init_96 rfl) rfl
theorem dX12_init_104 : decode cX12_init 104 = .ok (.putfield 44, 3) := o_181 (u1_8 hc_X12_init_96 rfl) (u2_d (u1_9 hc_X12_init_96 rfl) (u1_10 hc_X12_init_96 rfl) rfl) rfl
theorem dX12_init_107 : decode cX12_init 107 = .ok (.aload_n 0, 1) := o_42 (u1_11 hc_X12_init_96 rfl) rfl
theorem dX12_init_108 : decode cX12_init 108 = .ok (.bipush 30, 2) := o_16 (u1_12 hc_X12_init_96 rfl) (s1_d (u1_13 hc_X12_init_96 rfl) rfl) rfl
theorem dX12_init_110 : decode cX12_init 110 = .ok (.newarray .int, 2) := o_188_10 (u1_14 hc_X12_init_96 rfl) (u1_15 hc_X12_init_96 rfl) rfl
theorem hc_X12_init_112 : ((bL cX12_init).drop 112).take 18 = [181, 0, 47, 42, 16, 30, 188, 10, 181, 0, 50, 42, 16, 30, 188, 10, 181, 0] := by decide +kernel
theorem dX12_init_112 : decode cX12_init 112 = .ok (.putfield 47, 3) := o_181 (u1_0 hc_X12_init_112 rfl) (u2_d (u1_1 hc_X12_init_112 rfl) (u1_2 hc_X12_init_112 rfl) rfl) rfl
theorem dX12_init_115 : decode cX12_init 115 = .ok (.aload_n 0, 1) := o_42 (u1_3 hc_X12_init_112 rfl) rfl
theorem dX12_init_116 : decode cX12_init 116 = .ok (.bipush 30, 2) := o_16 (u1_4 hc_X12_init_112 rfl) (s1_d (u1_5 hc_X12_init_112 rfl) rfl) rfl
theorem dX12_init_118 : decode cX12_init 118 = .ok (.newarray .int, 2) := o_188_10 (u1_6 hc_X12_init_112 rfl) (u1_7 hc_X12_init_112 rfl) rfl
theorem dX12_init_120 : decode cX12_init 120 = .ok (.putfield 50, 3) := o_181 (u1_8 hc_X12_init_112 rfl) (u2_d (u1_9 hc_X12_init_112 rfl) (u1_10 hc_X12_init_112 rfl) rfl) rfl
theorem dX12_init_123 : decode cX12_init 123 = .ok (.aload_n 0, 1) := o_42 (u1_11 hc_X12_init_112 rfl) rfl
theorem dX12_init_124 : decode cX12_init 124 = .ok (.bipush 30, 2) := o_16 (u1_12 hc_X12_init_112 rfl) (s1_d (u1_13 hc_X12_init_112 rfl) rfl) rfl
theorem dX12_init_126 : decode cX12_init 126 = .ok (.newarray .int, 2) := o_188_10 (u1_14 hc_X12_init_112 rfl) (u1_15 hc_X12_init_112 rfl) rfl
theorem hc_X12_init_128 : ((bL cX12_init).drop 128).take 18 = [181, 0, 53, 42, 16, 30, 188, 4, 181, 0, 56, 42, 16, 30, 188, 4, 181, 0] := by decide +kernel
theorem dX12_init_128 : decode cX12_init 128 = .ok (.putfield 53, 3) := o_181 (u1_0 hc_X12_init_128 rfl) (u2_d (u1_1 hc_X12_init_128 rfl) (u1_2 hc_X12_init_128 rfl) rfl) rfl
theorem dX12_init_131 : decode cX12_init 131 = .ok (.aload_n 0, 1) := o_42 (u1_3 hc_X12_init_128 rfl) rfl
theorem dX12_init_132 : decode cX12_init 132 = .ok (.bipush 30, 2) := o_16 (u1_4 hc_X12_init_128 rfl) (s1_d (u1_5 hc_X12_init_128 rfl) rfl) rfl
theorem dX12_init_134 : decode cX12_init 134 = .ok (.newarray .boolean, 2) := o_188_4 (u1_6 hc_X12_init_128 rfl) (u1_7 hc_X12_init_128 rfl) rfl
theorem dX12_init_136 : decode cX12_init 136 = .ok (.putfield 56, 3) := o_181 (u1_8 hc_X12_init_128 rfl) (u2_d (u1_9 hc_X12_init_128 rfl) (u1_10 hc_X12_init_128 rfl) rfl) rfl
theorem dX12_init_139 : decode cX12_init 139 = .ok (.aload_n 0, 1) := o_42 (u1_11 hc_X12_init_128 rfl) rfl
theorem dX12_init_140 : decode cX12_init 140 = .ok (.bipush 30, 2) := o_16 (u1_12 hc_X12_init_128 rfl) (s1_d (u1_13 hc_X12_init_128 rfl) rfl) rfl
theorem dX12_init_142 : decode cX12_init 142 = .ok (.newarray .boolean, 2) := o_188_4 (u1_14 hc_X12_init_128 rfl) (u1_15 hc_X12_init_128 rfl) rfl
theorem hc_X12_init_144 : ((bL cX12_init).drop 144).take 18 = [181, 0, 59, 42, 17, 1, 44, 188, 10, 181, 0, 62, 42, 17, 11, 184, 188, 10] := by decide +kernel
theorem dX12_init_144 : decode cX12_init 144 = .ok (.putfield 59, 3) := o_181 (u1_0 hc_X12_init_144 rfl) (u2_d (u1_1 hc_X12_init_144 rfl) (u1_2 hc_X12_init_144 rfl) rfl) rfl
theorem dX12_init_147 : decode cX12_init 147 = .ok (.aload_n 0, 1) := o_42 (u1_3 hc_X12_init_144 rfl) rfl
theorem dX12_init_148 : decode cX12_init 148 = .ok (.sipush 300, 3) := o_17 (u1_4 hc_X12_init_144 rfl) (s2_d (u2_d (u1_5 hc_X12_init_144 rfl) (u1_6 hc_X12_init_144 rfl) rfl) rfl) rfl
theorem dX12_init_151 : decode cX12_init 151 = .ok (.newarray .int, 2) := o_188_10 (u1_7 hc_X12_init_144 rfl) (u1_8 hc_X12_init_144 rfl) rfl
theorem dX12_init_153 : decode cX12_init 153 = .ok (.putfield 62, 3) := o_181 (u1_9 hc_X12_init_144 rfl) (u2_d (u1_10 hc_X12_init_144 rfl) (u1_11 hc_X12_init_144 rfl) rfl) rfl
theorem dX12_init_156 : decode cX12_init 156 = .ok (.aload_n 0, 1) := o_42 (u1_12 hc_X12_init_144 rfl) rfl
theorem dX12_init_157 : decode cX12_init 157 = .ok (.sipush 3000, 3) := o_17 (u1_13 hc_X12_init_144 rfl) (s2_d (u2_d (u1_14 hc_X12_init_144 rfl) (u1_15 hc_X12_init_144 rfl) rfl) rfl) rfl
theorem hc_X12_init_160 : ((bL cX12_init).drop 160).take 18 = [188, 10, 181, 0, 65, 42, 17, 11, 184, 188, 10, 181, 0, 68, 42, 17, 11, 184] := by decide +kernel
theorem dX12_init_160 : decode cX12_init 160 = .ok (.newarray .int, 2) := o_188_10 (u1_0 hc_X12_init_160 rfl) (u1_1 hc_X12_init_160 rfl) rfl
theorem dX12_init_162 : decode cX12_init 162 = .ok (.putfield 65, 3) := o_181 (u1_2 hc_X12_init_160 rfl) (u2_d (u1_3 hc_X12_init_160 rfl) (u1_4 hc_X12_init_160 rfl) rfl) rfl
theorem dX12_init_165 : decode cX12_init 165 = .ok (.aload_n 0, 1) := o_42 (u1_5 hc_X12_init_160 rfl) rfl
theorem dX12_init_166 : decode cX12_init 166 = .ok (.sipush 3000, 3) := o_17 (u1_6 hc_X12_init_160 rfl) (s2_d (u2_d (u1_7 hc_X12_init_160 rfl) (u1_8 hc_X12_init_160 rfl) rfl) rfl) rfl
theorem dX12_init_169 : decode cX12_init 169 = .ok (.newarray .int, 2) := o_188_10 (u1_9 hc_X12_init_160 rfl) (u1_10 hc_X12_init_160 rfl) rfl
theorem dX12_init_171 : decode cX12_init 171 = .ok (.putfield 68, 3) := o_181 (u1_11 hc_X12_init_160 rfl) (u2_d (u1_12 hc_X12_init_160 rfl) (u1_13 hc_X12_init_160 rfl) rfl) rfl
theorem dX12_init_174 : decode cX12_init 174 = .ok (.aload_n 0, 1) := o_42 (u1_14 hc_X12_init_160 rfl) rfl
theorem dX12_init_175 : decode cX12_init 175 = .ok (.sipush 3000, 3) := o_17 (u1_15 hc_X12_init_160 rfl) (s2_d (u2_d (u1_16 hc_X12_init_160 rfl) (u1_17 hc_X12_init_160 rfl) rfl) rfl) rfl
theorem hc_X12_init_176 : ((bL cX12_init).drop 176).take 18 = [11, 184, 188, 4, 181, 0, 71, 42, 17, 11, 184, 188, 4, 181, 0, 74, 42, 16] := by decide +kernel
theorem dX12_init_178 : decode cX12_init 178 = .ok (.newarray .boolean, 2) := o_188_4 (u1_2 hc_X12_init_176 rfl) (u1_3 hc_X12_init_176 rfl) rfl
theorem dX12_init_180 : decode cX12_init 180 = .ok (.putfield 71, 3) := o_181 (u1_4 hc_X12_init_176 rfl) (u2_d (u1_5 hc_X12_init_176 rfl) (u1_6 hc_X12_init_176 rfl) rfl) rfl
theorem dX12_init_183 : decode cX12_init 183 = .ok (.aload_n 0, 1) := o_42 (u1_7 hc_X12_init_176 rfl) rfl
theorem dX12_init_184 : decode cX12_init 184 = .ok (.sipush 3000, 3) := o_17 (u1_8 hc_X12_init_176 rfl) (s2_d (u2_d (u1_9 hc_X12_init_176 rfl) (u1_10 hc_X12_init_176 rfl) rfl) rfl) rfl
theorem dX12_init_187 : decode cX12_init 187 = .ok (.newarray .boolean, 2) := o_188_4 (u1_11 hc_X12_init_176 rfl) (u1_12 hc_X12_init_176 rfl) rfl
theorem dX12_init_189 : decode cX12_init 189 = .ok (.putfield 74, 3) := o_181 (u1_13 hc_X12_init_176 rfl) (u2_d (u1_14 hc_X12_init_176 rfl) (u1_15 hc_X12_init_176 rfl) rfl) rfl
theorem hc_X12_init_192 : ((bL cX12_init).drop 192).take 18 = [42, 16, 100, 188, 10, 181, 0, 77, 42, 16, 30, 188, 10, 181, 0, 80, 42, 16] := by decide +kernel
theorem dX12_init_192 : decode cX12_init 192 = .ok (.aload_n 0, 1) := o_42 (u1_0 hc_X12_init_192 rfl) rfl
theorem dX12_init_193 : decode cX12_init 193 = .ok (.bipush 100, 2) := o_16 (u1_1 hc_X12_init_192 rfl) (s1_d (u1_2 hc_X12_init_192 rfl) rfl) rfl
theorem dX12_init_195 : decode cX12_init 195 = .ok (.newarray .int, 2) := o_188_10 (u1_3 hc_X12_init_192 rfl) (u1_4 hc_X12_init_192 rfl) rfl
theorem dX12_init_197 : decode cX12_init 197 = .ok (.putfield 77, 3) := o_181 (u1_5 hc_X12_init_192 rfl) (u2_d (u1_6 hc_X12_init_192 rfl) (u1_7 hc_X12_init_192 rfl) rfl) rfl
theorem dX12_init_200 : decode cX12_init 200 = .ok (.aload_n 0, 1) := o_42 (u1_8 hc_X12_init_192 rfl) rfl
theorem dX12_init_201 : decode cX12_init 201 = .ok (.bipush 30, 2) := o_16 (u1_9 hc_X12_init_192 rfl) (s1_d (u1_10 hc_X12_init_192 rfl) rfl) rfl
theorem dX12_init_203 : decode cX12_init 203 = .ok (.newarray .int, 2) := o_188_10 (u1_11 hc_X12_init_192 rfl) (u1_12 hc_X12_init_192 rfl) rfl
theorem dX12_init_205 : decode cX12_init 205 = .ok (.putfield 80, 3) := o_181 (u1_13 hc_X12_init_192 rfl) (u2_d (u1_14 hc_X12_init_192 rfl) (u1_15 hc_X12_init_192 rfl) rfl) rfl
theorem hc_X12_init_208 : ((bL cX12_init).drop 208).take 18 = [42, 16, 30, 188, 10, 181, 0, 83, 42, 16, 30, 188, 4, 181, 0, 86, 42, 16] := by decide +kernel
theorem dX12_init_208 : decode cX12_init 208 = .ok (.aload_n 0, 1) := o_42 (u1_0 hc_X12_init_208 rfl) rfl
theorem dX12_init_209 : decode cX12_init 209 = .ok (.bipush 30, 2) := o_16 (u1_1 hc_X12_init_208 rfl) (s1_d (u1_2 hc_X12_init_208 rfl) rfl) rfl
theorem dX12_init_211 : decode cX12_init 211 = .ok (.newarray .int, 2) := o_188_10 (u1_3 hc_X12_init_208 rfl) (u1_4 hc_X12_init_208 rfl) rfl
theorem dX12_init_213 : decode cX12_init 213 = .ok (.putfield 83, 3) := o_181 (u1_5 hc_X12_init_208 rfl) (u2_d (u1_6 hc_X12_init_208 rfl) (u1_7 hc_X12_init_208 rfl) rfl) rfl
theorem dX12_init_216 : decode cX12_init 216 = .ok (.aload_n 0, 1) := o_42 (u1_8 hc_X12_init_208 rfl) rfl
theorem dX12_init_217 : decode cX12_init 217 = .ok (.bipush 30, 2) := o_16 (u1_9 hc_X12_init_208 rfl) (s1_d (u1_10 hc_X12_init_208 rfl) rfl) rfl
theorem dX12_init_219 : decode cX12_init 219 = .ok (.newarray .boolean, 2) := o_188_4 (u1_11 hc_X12_init_208 rfl) (u1_12 hc_X12_init_208 rfl) rfl
theorem dX12_init_221 : decode cX12_init 221 = .ok (.putfield 86, 3) := o_181 (u1_13 hc_X12_init_208 rfl) (u2_d (u1_14 hc_X12_init_208 rfl) (u1_15 hc_X12_init_208 rfl) rfl) rfl
theorem hc_X12_init_224 : ((bL cX12_init).drop 224).take 18 = [42, 16, 30, 188, 4, 181, 0, 89, 42, 16, 30, 188, 4, 181, 0, 92, 42, 16] := by decide +kernel
theorem dX12_init_224 : decode cX12_init 224 = .ok (.aload_n 0, 1) := o_42 (u1_0 hc_X12_init_224 rfl) rfl
theorem dX12_init_225 : decode cX12_init 225 = .ok (.bipush 30, 2) := o_16 (u1_1 hc_X12_init_224 rfl) (s1_d (u1_2 hc_X12_init_224 rfl) rfl) rfl
theorem dX12_init_227 : decode cX12_init 227 = .ok (.newarray .boolean, 2) := o_188_4 (u1_3 hc_X12_init_224 rfl) (u1_4 hc_X12_init_224 rfl) rfl
theorem dX12_init_229 : decode cX12_init 229 = .ok (.putfield 89, 3) := o_181 (u1_5 hc_X12_init_224 rfl) (u2_d (u1_6 hc_X12_init_224 rfl) (u1_7 hc_X12_init_224 rfl) rfl) rfl
theorem dX12_init_232 : decode cX12_init 232 = .ok (.aload_n 0, 1) := o_42 (u1_8 hc_X12_init_224 rfl) rfl
theorem dX12_init_233 : decode cX12_init 233 = .ok (.bipush 30, 2) := o_16 (u1_9 hc_X12_init_224 rfl) (s1_d (u1_10 hc_X12_init_224 rfl) rfl) rfl
theorem dX12_init_235 : decode cX12_init 235 = .ok (.newarray .boolean, 2) := o_188_4 (u1_11 hc_X12_init_224 rfl) (u1_12 hc_X12_init_224 rfl) rfl
theorem dX12_init_237 : decode cX12_init 237 = .ok (.putfield 92, 3) := o_181 (u1_13 hc_X12_init_224 rfl) (u2_d (u1_14 hc_X12_init_224 rfl) (u1_15 hc_X12_init_224 rfl) rfl) rfl
theorem hc_X12_init_240 : ((bL cX12_init).drop 240).take 18 = [42, 16, 30, 188, 4, 181, 0, 95, 42, 16, 30, 188, 4, 181, 0, 98, 42, 16] := by decide +kernel
theorem dX12_init_240 : decode cX12_init 240 = .ok (.aload_n 0, 1) := o_42 (u1_0 hc_X12_init_240 rfl) rfl
theorem dX12_init_241 : decode cX12_init 241 = .ok (.bipush 30, 2) := o_16 (u1_1 hc_X12_init_240 rfl) (s1_d (u1_2 hc_X12_init_240 rfl) rfl) rfl
theorem dX12_init_243 : decode cX12_init 243 = .ok (.newarray .boolean, 2) := o_188_4 (u1_3 hc_X12_init_240 rfl) (u1_4 hc_X12_init_240 rfl) rfl
theorem dX12_init_245 : decode cX12_init 245 = .ok (.putfield 95, 3) := o_181 (u1_5 hc_X12_init_240 rfl) (u2_d (u1_6 hc_X12_init_240 rfl) (u1_7 hc_X12_init_240 rfl) rfl) rfl
theorem dX12_init_248 : decode cX12_init 248 = .ok (.aload_n 0, 1) := o_42 (u1_8 hc_X12_init_240 rfl) rfl
theorem dX12_init_249 : decode cX12_init 249 = .ok (.bipush 30, 2) := o_16 (u1_9 hc_X12_init_240 rfl) (s1_d (u1_10 hc_X12_init_240 rfl) rfl) rfl
theorem dX12_init_251 : decode cX12_init 251 = .ok (.newarray .boolean, 2) := o_188_4 (u1_11 hc_X12_init_240 rfl) (u1_12 hc_X12_init_240 rfl) rfl
theorem dX12_init_253 : decode cX12_init 253 = .ok (.putfield 98, 3) := o_181 (u1_13 hc_X12_init_240 rfl) (u2_d (u1_14 hc_X12_init_240 rfl) (u1_15 hc_X12_init_240 rfl) rfl) rfl
theorem hc_X12_init_256 : ((bL cX12_init).drop 256).take 18 = [42, 16, 30, 188, 4, 181, 0, 101, 42, 16, 30, 188, 4, 181, 0, 104, 42, 17] := by decide +kernel
theorem dX12_init_256 : decode cX12_init 256 = .ok (.aload_n 0, 1) := o_42 (u1_0 hc_X12_init_256 rfl) rfl
theorem dX12_init_257 : decode cX12_init 257 = .ok (.bipush 30, 2) := o_16 (u1_1 hc_X12_init_256 rfl) (s1_d (u1_2 hc_X12_init_256 rfl) rfl) rfl
theorem dX12_init_259 : decode cX12_init 259 = .ok (.newarray .boolean, 2) := o_188_4 (u1_3 hc_X12_init_256 rfl) (u1_4 hc_X12_init_256 rfl) rfl
theorem dX12_init_261 : decode cX12_init 261 = .ok (.putfield 101, 3) := o_181 (u1_5 hc_X12_init_256 rfl) (u2_d (u1_6 hc_X12_init_256 rfl) (u1_7 hc_X12_init_256 rfl) rfl) rfl
theorem dX12_init_264 : decode cX12_init 264 = .ok (.aload_n 0, 1) := o_42 (u1_8 hc_X12_init_256 rfl) rfl
theorem dX12_init_265 : decode cX12_init 265 = .ok (.bipush 30, 2) := o_16 (u1_9 hc_X12_init_256 rfl) (s1_d (u1_10 hc_X12_init_256 rfl) rfl) rfl
theorem dX12_init_267 : decode cX12_init 267 = .ok (.newarray .boolean, 2) := o_188_4 (u1_11 hc_X12_init_256 rfl) (u1_12 hc_X12_init_256 rfl) rfl
theorem dX12_init_269 : decode cX12_init 269 = .ok (.putfield 104, 3) := o_181 (u1_13 hc_X12_init_256 rfl) (u2_d (u1_14 hc_X12_init_256 rfl) (u1_15 hc_X12_init_256 rfl) rfl) rfl
theorem hc_X12_init_272 : ((bL cX12_init).drop 272).take 18 = [42, 17, 35, 70, 188, 8, 181, 0, 107, 42, 17, 35, 70, 188, 8, 181, 0, 111] := by decide +kernel
theorem dX12_init_272 : decode cX12_init 272 = .ok (.aload_n 0, 1) := o_42 (u1_0 hc_X12_init_272 rfl) rfl
theorem dX12_init_273 : decode cX12_init 273 = .ok (.sipush 9030, 3) := o_17 (u1_1 hc_X12_init_272 rfl) (s2_d (u2_d (u1_2 hc_X12_init_272 rfl) (u1_3 hc_X12_init_272 rfl) rfl) rfl) rfl
theorem dX12_init_276 : decode cX12_init 276 = .ok (.newarray .byte, 2) := o_188_8 (u1_4 hc_X12_init_272 rfl) (u1_5 hc_X12_init_272 rfl) rfl
theorem dX12_init_278 : decode cX12_init 278 = .ok (.putfield 107, 3) := o_181 (u1_6 hc_X12_init_272 rfl) (u2_d (u1_7 hc_X12_init_272 rfl) (u1_8 hc_X12_init_272 rfl) rfl) rfl
theorem dX12_init_281 : decode cX12_init 281 = .ok (.aload_n 0, 1) := o_42 (u1_9 hc_X12_init_272 rfl) rfl
theorem dX12_init_282 : decode cX12_init 282 = .ok (.sipush 9030, 3) := o_17 (u1_10 hc_X12_init_272 rfl) (s2_d (u2_d (u1_11 hc_X12_init_272 rfl) (u1_12 hc_X12_init_272 rfl) rfl) rfl) rfl
theorem dX12_init_285 : decode cX12_init 285 = .ok (.newarray .byte, 2) := o_188_8 (u1_13 hc_X12_init_272 rfl) (u1_14 hc_X12_init_272 rfl) rfl
theorem dX12_init_287 : decode cX12_init 287 = .ok (.putfield 111, 3) := o_181 (u1_15 hc_X12_init_272 rfl) (u2_d (u1_16 hc_X12_init_272 rfl) (u1_17 hc_X12_init_272 rfl) rfl) rfl
theorem hc_X12_init_288 : ((bL cX12_init).drop 288).take 18 = [0, 111, 42, 17, 35, 70, 188, 8, 181, 0, 114, 42, 17, 1, 44, 188, 10, 181] := by decide +kernel
theorem dX12_init_290 : decode cX12_init 290 = .ok (.aload_n 0, 1) := o_42 (u1_2 hc_X12_init_288 rfl) rfl
theorem dX12_init_291 : decode cX12_init 291 = .ok (.sipush 9030, 3) := o_17 (u1_3 hc_X12_init_288 rfl) (s2_d (u2_d (u1_4 hc_X12_init_288 rfl) (u1_5 hc_X12_init_288 rfl) rfl) rfl) rfl
theorem dX12_init_294 : decode cX12_init 294 = .ok (.newarray .byte, 2) := o_188_8 (u1_6 hc_X12_init_288 rfl) (u1_7 hc_X12_init_288 rfl) rfl
theorem dX12_init_296 : decode cX12_init 296 = .ok (.putfield 114, 3) := o_181 (u1_8 hc_X12_init_288 rfl) (u2_d (u1_9 hc_X12_init_288 rfl) (u1_10 hc_X12_init_288 rfl) rfl) rfl
theorem dX12_init_299 : decode cX12_init 299 = .ok (.aload_n 0, 1) := o_42 (u1_11 hc_X12_init_288 rfl) rfl
theorem dX12_init_300 : decode cX12_init 300 = .ok (.sipush 300, 3) := o_17 (u1_12 hc_X12_init_288 rfl) (s2_d (u2_d (u1_13 hc_X12_init_288 rfl) (u1_14 hc_X12_init_288 rfl) rfl) rfl) rfl
theorem dX12_init_303 : decode cX12_init 303 = .ok (.newarray .int, 2) := o_188_10 (u1_15 hc_X12_init_288 rfl) (u1_16 hc_X12_init_288 rfl) rfl
theorem hc_X12_init_304 : ((bL cX12_init).drop 304).take 18 = [10, 181, 0, 117, 42, 17, 3, 132, 188, 10, 181, 0, 120, 42, 17, 3, 132, 188] := by decide +kernel
theorem dX12_init_305 : decode cX12_init 305 = .ok (.putfield 117, 3) := o_181 (u1_1 hc_X12_init_304 rfl) (u2_d (u1_2 hc_X12_init_304 rfl) (u1_3 hc_X12_init_304 rfl) rfl) rfl
theorem dX12_init_308 : decode cX12_init 308 = .ok (.aload_n 0, 1) := o_42 (u1_4 hc_X12_init_304 rfl) rfl
theorem dX12_init_309 : decode cX12_init 309 = .ok (.sipush 900, 3) := o_17 (u1_5 hc_X12_init_304 rfl) (s2_d (u2_d (u1_6 hc_X12_init_304 rfl) (u1_7 hc_X12_init_304 rfl) rfl) rfl) rfl
theorem dX12_init_312 : decode cX12_init 312 = .ok (.newarray .int, 2) := o_188_10 (u1_8 hc_X12_init_304 rfl) (u1_9 hc_X12_init_304 rfl) rfl
theorem dX12_init_314 : decode cX12_init 314 = .ok (.putfield 120, 3) := o_181 (u1_10 hc_X12_init_304 rfl) (u2_d (u1_11 hc_X12_init_304 rfl) (u1_12 hc_X12_init_304 rfl) rfl) rfl
theorem dX12_init_317 : decode cX12_init 317 = .ok (.aload_n 0, 1) := o_42 (u1_13 hc_X12_init_304 rfl) rfl
theorem dX12_init_318 : decode cX12_init 318 = .ok (.sipush 900, 3) := o_17 (u1_14 hc_X12_init_304 rfl) (s2_d (u2_d (u1_15 hc_X12_init_304 rfl) (u1_16 hc_X12_init_304 rfl) rfl) rfl) rfl
theorem hc_X12_init_320 : ((bL cX12_init).drop 320).take 18 = [132, 188, 10, 181, 0, 123, 42, 16, 30, 188, 10, 181, 0, 126, 42, 16, 30, 188] := by decide +kernel
theorem dX12_init_321 : decode cX12_init 321 = .ok (.newarray .int, 2) := o_188_10 (u1_1 hc_X12_init_320 rfl) (u1_2 hc_X12_init_320 rfl) rfl
theorem dX12_init_323 : decode cX12_init 323 = .ok (.putfield 123, 3) := o_181 (u1_3 hc_X12_init_320 rfl) (u2_d (u1_4 hc_X12_init_320 rfl) (u1_5 hc_X12_init_320 rfl) rfl) rfl
theorem dX12_init_326 : decode cX12_init 326 = .ok (.aload_n 0, 1) := o_42 (u1_6 hc_X12_init_320 rfl) rfl
theorem dX12_init_327 : decode cX12_init 327 = .ok (.bipush 30, 2) := o_16 (u1_7 hc_X12_init_320 rfl) (s1_d (u1_8 hc_X12_init_320 rfl) rfl) rfl
theorem dX12_init_329 : decode cX12_init 329 = .ok (.newarray .int, 2) := o_188_10 (u1_9 hc_X12_init_320 rfl) (u1_10 hc_X12_init_320 rfl) rfl
theorem dX12_init_331 : decode cX12_init 331 = .ok (.putfield 126, 3) := o_181 (u1_11 hc_X12_init_320 rfl) (u2_d (u1_12 hc_X12_init_320 rfl) (u1_13 hc_X12_init_320 rfl) rfl) rfl
theorem dX12_init_334 : decode cX12_init 334 = .ok (.aload_n 0, 1) := o_42 (u1_14 hc_X12_init_320 rfl) rfl
theorem dX12_init_335 : decode cX12_init 335 = .ok (.bipush 30, 2) := o_16 (u1_15 hc_X12_init_320 rfl) (s1_d (u1_16 hc_X12_init_320 rfl) rfl) rfl
theorem hc_X12_init_336 : ((bL cX12_init).drop 336).take 18 = [30, 188, 10, 181, 0, 129, 42, 17, 1, 104, 188, 11, 181, 0, 132, 42, 16, 30] := by decide +kernel
theorem dX12_init_337 : decode cX12_init 337 = .ok (.newarray .int, 2) := o_188_10 (u1_1 hc_X12_init_336 rfl) (u1_2 hc_X12_init_336 rfl) rfl
theorem dX12_init_339 : decode cX12_init 339 = .ok (.putfield 129, 3) := o_181 (u1_3 hc_X12_init_336 rfl) (u2_d (u1_4 hc_X12_init_336 rfl) (u1_5 hc_X12_init_336 rfl) rfl) rfl
theorem dX12_init_342 : decode cX12_init 342 = .ok (.aload_n 0, 1) := o_42 (u1_6 hc_X12_init_336 rfl) rfl
theorem dX12_init_343 : decode cX12_init 343 = .ok (.sipush 360, 3) := o_17 (u1_7 hc_X12_init_336 rfl) (s2_d (u2_d (u1_8 hc_X12_init_336 rfl) (u1_9 hc_X12_init_336 rfl) rfl) rfl) rfl
theorem dX12_init_346 : decode cX12_init 346 = .ok (.newarray .long, 2) := o_188_11 (u1_10 hc_X12_init_336 rfl) (u1_11 hc_X12_init_336 rfl) rfl
theorem dX12_init_348 : decode cX12_init 348 = .ok (.putfield 132, 3) := o_181 (u1_12 hc_X12_init_336 rfl) (u2_d (u1_13 hc_X12_init_336 rfl) (u1_14 hc_X12_init_336 rfl) rfl) rfl
theorem dX12_init_351 : decode cX12_init 351 = .ok (.aload_n 0, 1) := o_42 (u1_15 hc_X12_init_336 rfl) rfl
theorem hc_X12_init_352 : ((bL cX12_init).drop 352).take 18 = [16, 30, 188, 4, 181, 0, 136, 42, 16, 10, 188, 10, 181, 0, 139, 42, 16, 10] := by decide +kernel
theorem dX12_init_352 : decode cX12_init 352 = .ok (.bipush 30, 2) := o_16 (u1_0 hc_X12_init_352 rfl) (s1_d (u1_1 hc_X12_init_352 rfl) rfl) rfl
theorem dX12_init_354 : decode cX12_init 354 = .ok (.newarray .boolean, 2) := o_188_4 (u1_2 hc_X12_init_352 rfl) (u1_3 hc_X12_init_352 rfl) rfl
theorem dX12_init_356 : decode cX12_init 356 = .ok (.putfield 136, 3) := o_181 (u1_4 hc_X12_init_352 rfl) (u2_d (u1_5 hc_X12_init_352 rfl) (u1_6 hc_X12_init_352 rfl) rfl) rfl
theorem dX12_init_359 : decode cX12_init 359 = .ok (.aload_n 0, 1) := o_42 (u1_7 hc_X12_init_352 rfl) rfl
theorem dX12_init_360 : decode cX12_init 360 = .ok (.bipush 10, 2) := o_16 (u1_8 hc_X12_init_352 rfl) (s1_d (u1_9 hc_X12_init_352 rfl) rfl) rfl
theorem dX12_init_362 : decode cX12_init 362 = .ok (.newarray .int, 2) := o_188_10 (u1_10 hc_X12_init_352 rfl) (u1_11 hc_X12_init_352 rfl) rfl
theorem dX12_init_364 : decode cX12_init 364 = .ok (.putfield 139, 3) := o_181 (u1_12 hc_X12_init_352 rfl) (u2_d (u1_13 hc_X12_init_352 rfl) (u1_14 hc_X12_init_352 rfl) rfl) rfl
theorem dX12_init_367 : decode cX12_init 367 = .ok (.aload_n 0, 1) := o_42 (u1_15 hc_X12_init_352 rfl) rfl
theorem hc_X12_init_368 : ((bL cX12_init).drop 368).take 18 = [16, 10, 188, 10, 181, 0, 142, 42, 16, 120, 188, 10, 181, 0, 145, 42, 16, 12] := by decide +kernel
theorem dX12_init_368 : decode cX12_init 368 = .ok (.bipush 10, 2) := o_16 (u1_0 hc_X12_init_368 rfl) (s1_d (u1_1 hc_X12_init_368 rfl) rfl) rfl
theorem dX12_init_370 : decode cX12_init 370 = .ok (.newarray .int, 2) := o_188_10 (u1_2 hc_X12_init_368 rfl) (u1_3 hc_X12_init_368 rfl) rfl
theorem dX12_init_372 : decode cX12_init 372 = .ok (.putfield 142, 3) := o_181 (u1_4 hc_X12_init_368 rfl) (u2_d (u1_5 hc_X12_init_368 rfl) (u1_6 hc_X12_init_368 rfl) rfl) rfl
theorem dX12_init_375 : decode cX12_init 375 = .ok (.aload_n 0, 1) := o_42 (u1_7 hc_X12_init_368 rfl) rfl
theorem dX12_init_376 : decode cX12_init 376 = .ok (.bipush 120, 2) := o_16 (u1_8 hc_X12_init_368 rfl) (s1_d (u1_9 hc_X12_init_368 rfl) rfl) rfl
theorem dX12_init_378 : decode cX12_init 378 = .ok (.newarray .int, 2) := o_188_10 (u1_10 hc_X12_init_368 rfl) (u1_11 hc_X12_init_368 rfl) rfl
theorem dX12_init_380 : decode cX12_init 380 = .ok (.putfield 145, 3) := o_181 (u1_12 hc_X12_init_368 rfl) (u2_d (u1_13 hc_X12_init_368 rfl) (u1_14 hc_X12_init_368 rfl) rfl) rfl
theorem dX12_init_383 : decode cX12_init 383 = .ok (.aload_n 0, 1) := o_42 (u1_15 hc_X12_init_368 rfl) rfl
theorem hc_X12_init_384 : ((bL cX12_init).drop 384).take 18 = [16, 12, 188, 11, 181, 0, 148, 42, 180, 0, 13, 3, 16, 247, 79, 42, 180, 0] := by decide +kernel
theorem dX12_init_384 : decode cX12_init 384 = .ok (.bipush 12, 2) := o_16 (u1_0 hc_X12_init_384 rfl) (s1_d (u1_1 hc_X12_init_384 rfl) rfl) rfl
theorem dX12_init_386 : decode cX12_init 386 = .ok (.newarray .long, 2) := o_188_11 (u1_2 hc_X12_init_384 rfl) (u1_3 hc_X12_init_384 rfl) rfl
theorem dX12_init_388 : decode cX12_init 388 = .ok (.putfield 148, 3) := o_181 (u1_4 hc_X12_init_384 rfl) (u2_d (u1_5 hc_X12_init_384 rfl) (u1_6 hc_X12_init_384 rfl) rfl) rfl
theorem dX12_init_391 : decode cX12_init 391 = .ok (.aload_n 0, 1) := o_42 (u1_7 hc_X12_init_384 rfl) rfl
theorem dX12_init_392 : decode cX12_init 392 = .ok (.getfield 13, 3) := o_180 (u1_8 hc_X12_init_384 rfl) (u2_d (u1_9 hc_X12_init_384 rfl) (u1_10 hc_X12_init_384 rfl) rfl) rfl
theorem dX12_init_395 : decode cX12_init 395 = .ok (.iconst 0, 1) := o_3 (u1_11 hc_X12_init_384 rfl) rfl
theorem dX12_init_396 : decode cX12_init 396 = .ok (.bipush (-9), 2) := o_16 (u1_12 hc_X12_init_384 rfl) (s1_d (u1_13 hc_X12_init_384 rfl) rfl) rfl
theorem dX12_init_398 : decode cX12_init 398 = .ok (.iastore, 1) := o_79 (u1_14 hc_X12_init_384 rfl) rfl
theorem dX12_init_399 : decode cX12_init 399 = .ok (.aload_n 0, 1) := o_42 (u1_15 hc_X12_init_384 rfl) rfl
theorem hc_X12_init_400 : ((bL cX12_init).drop 400).take 18 = [180, 0, 13, 4, 16, 247, 79, 5, 60, 27, 16, 6, 162, 0, 16, 42, 180, 0] := by decide +kernel
theorem dX12_init_400 : decode cX12_init 400 = .ok (.getfield 13, 3) := o_180 (u1_0 hc_X12_init_400 rfl) (u2_d (u1_1 hc_X12_init_400 rfl) (u1_2 hc_X12_init_400 rfl) rfl) rfl
theorem dX12_init_403 : decode cX12_init 403 = .ok (.iconst 1, 1) := o_4 (u1_3 hc_X12_init_400 rfl) rfl
theorem dX12_init_404 : decode cX12_init 404 = .ok (.bipush (-9), 2) := o_16 (u1_4 hc_X12_init_400 rfl) (s1_d (u1_5 hc_X12_init_400 rfl) rfl) rfl
theorem dX12_init_406 : decode cX12_init 406 = .ok (.iastore, 1) := o_79 (u1_6 hc_X12_init_400 rfl) rfl
theorem dX12_init_407 : decode cX12_init 407 = .ok (.iconst 2, 1) := o_5 (u1_7 hc_X12_init_400 rfl) rfl
theorem dX12_init_408 : decode cX12_init 408 = .ok (.istore_n 1, 1) := o_60 (u1_8 hc_X12_init_400 rfl) rfl
theorem dX12_init_409 : decode cX12_init 409 = .ok (.iload_n 1, 1) := o_27 (u1_9 hc_X12_init_400 rfl) rfl
theorem dX12_init_410 : decode cX12_init 410 = .ok (.bipush 6, 2) := o_16 (u1_10 hc_X12_init_400 rfl) (s1_d (u1_11 hc_X12_init_400 rfl) rfl) rfl
theorem dX12_init_412 : decode cX12_init 412 = .ok (.if_icmp .ge 16, 3) := o_162 (u1_12 hc_X12_init_400 rfl) (s2_d (u2_d (u1_13 hc_X12_init_400 rfl) (u1_14 hc_X12_init_400 rfl) rfl) rfl) rfl
theorem dX12_init_415 : decode cX12_init 415 = .ok (.aload_n 0, 1) := o_42 (u1_15 hc_X12_init_400 rfl) rfl
theorem hc_X12_init_416 : ((bL cX12_init).drop 416).take 18 = [180, 0, 13, 27, 4, 79, 132, 1, 1, 167, 255, 240, 42, 16, 6, 181, 0, 151] := by decide +kernel
theorem dX12_init_416 : decode cX12_init 416 = .ok (.getfield 13, 3) := o_180 (u1_0 hc_X12_init_416 rfl) (u2_d (u1_1 hc_X12_init_416 rfl) (u1_2 hc_X12_init_416 rfl) rfl) rfl
theorem dX12_init_419 : decode cX12_init 419 = .ok (.iload_n 1, 1) := o_27 (u1_3 hc_X12_init_416 rfl) rfl
theorem dX12_init_420 : decode cX12_init 420 = .ok (.iconst 1, 1) := o_4 (u1_4 hc_X12_init_416 rfl) rfl
theorem dX12_init_421 : decode cX12_init 421 = .ok (.iastore, 1) := o_79 (u1_5 hc_X12_init_416 rfl) rfl
theorem dX12_init_422 : decode cX12_init 422 = .ok (.iinc 1 1, 3) := o_132 (u1_6 hc_X12_init_416 rfl) (u1_7 hc_X12_init_416 rfl) (s1_d (u1_8 hc_X12_init_416 rfl) rfl) rfl
theorem dX12_init_425 : decode cX12_init 425 = .ok (.goto (-16), 3) := o_167 (u1_9 hc_X12_init_416 rfl) (s2_d (u2_d (u1_10 hc_X12_init_416 rfl) (u1_11 hc_X12_init_416 rfl) rfl) rfl) rfl
theorem dX12_init_428 : decode cX12_init 428 = .ok (.aload_n 0, 1) := o_42 (u1_12 hc_X12_init_416 rfl) rfl
theorem dX12_init_429 : decode cX12_init 429 = .ok (.bipush 6, 2) := o_16 (u1_13 hc_X12_init_416 rfl) (s1_d (u1_14 hc_X12_init_416 rfl) rfl) rfl
theorem dX12_init_431 : decode cX12_init 431 = .ok (.putfield 151, 3) := o_181 (u1_15 hc_X12_init_416 rfl) (u2_d (u1_16 hc_X12_init_416 rfl) (u1_17 hc_X12_init_416 rfl) rfl) rfl
theorem hc_X12_init_432 : ((bL cX12_init).drop 432).take 18 = [0, 151, 3, 60, 27, 17, 0, 144, 162, 0, 17, 42, 180, 0, 16, 27, 16, 247] := by decide +kernel
theorem dX12_init_434 : decode cX12_init 434 = .ok (.iconst 0, 1) := o_3 (u1_2 hc_X12_init_432 rfl) rfl
theorem dX12_init_435 : decode cX12_init 435 = .ok (.istore_n 1, 1) := o_60 (u1_3 hc_X12_init_432 rfl) rfl
theorem dX12_init_436 : decode cX12_init 436 = .ok (.iload_n 1, 1) := o_27 (u1_4 hc_X12_init_432 rfl) rfl
theorem dX12_init_437 : decode cX12_init 437 = .ok (.sipush 144, 3) := o_17 (u1_5 hc_X12_init_432 rfl) (s2_d (u2_d (u1_6 hc_X12_init_432 rfl) (u1_7 hc_X12_init_432 rfl) rfl) rfl) rfl
theorem dX12_init_440 : decode cX12_init 440 = .ok (.if_icmp .ge 17, 3) := o_162 (u1_8 hc_X12_init_432 rfl) (s2_d (u2_d (u1_9 hc_X12_init_432 rfl) (u1_10 hc_X12_init_432 rfl) rfl) rfl) rfl
theorem dX12_init_443 : decode cX12_init 443 = .ok (.aload_n 0, 1) := o_42 (u1_11 hc_X12_init_432 rfl) rfl
theorem dX12_init_444 : decode cX12_init 444 = .ok (.getfield 16, 3) := o_180 (u1_12 hc_X12_init_432 rfl) (u2_d (u1_13 hc_X12_init_432 rfl) (u1_14 hc_X12_init_432 rfl) rfl) rfl
theorem dX12_init_447 : decode cX12_init 447 = .ok (.iload_n 1, 1) := o_27 (u1_15 hc_X12_init_432 rfl) rfl
theorem hc_X12_init_448 : ((bL cX12_init).drop 448).take 18 = [16, 247, 79, 132, 1, 1, 167, 255, 238, 42, 16, 247, 181, 0, 155, 42, 16, 247] := by decide +kernel
theorem dX12_init_448 : decode cX12_init 448 = .ok (.bipush (-9), 2) := o_16 (u1_0 hc_X12_init_448 rfl) (s1_d (u1_1 hc_X12_init_448 rfl) rfl) rfl
theorem dX12_init_450 : decode cX12_init 450 = .ok (.iastore, 1) := o_79 (u1_2 hc_X12_init_448 rfl) rfl
theorem dX12_init_451 : decode cX12_init 451 = .ok (.iinc 1 1, 3) := o_132 (u1_3 hc_X12_init_448 rfl) (u1_4 hc_X12_init_448 rfl) (s1_d (u1_5 hc_X12_init_448 rfl) rfl) rfl
theorem dX12_init_454 : decode cX12_init 454 = .ok (.goto (-18), 3) := o_167 (u1_6 hc_X12_init_448 rfl) (s2_d (u2_d (u1_7 hc_X12_init_448 rfl) (u1_8 hc_X12_init_448 rfl) rfl) rfl) rfl
theorem dX12_init_457 : decode cX12_init 457 = .ok (.aload_n 0, 1) := o_42 (u1_9 hc_X12_init_448 rfl) rfl
theorem dX12_init_458 : decode cX12_init 458 = .ok (.bipush (-9), 2) := o_16 (u1_10 hc_X12_init_448 rfl) (s1_d (u1_11 hc_X12_init_448 rfl) rfl) rfl
theorem dX12_init_460 : decode cX12_init 460 = .ok (.putfield 155, 3) := o_181 (u1_12 hc_X12_init_448 rfl) (u2_d (u1_13 hc_X12_init_448 rfl) (u1_14 hc_X12_init_448 rfl) rfl) rfl
theorem dX12_init_463 : decode cX12_init 463 = .ok (.aload_n 0, 1) := o_42 (u1_15 hc_X12_init_448 rfl) rfl
theorem hc_X12_init_464 : ((bL cX12_init).drop 464).take 18 = [16, 247, 181, 0, 158, 177] := by decide +kernel
theorem dX12_init_464 : decode cX12_init 464 = .ok (.bipush (-9), 2) := o_16 (u1_0 hc_X12_init_464 rfl) (s1_d (u1_1 hc_X12_init_464 rfl) rfl) rfl
theorem dX12_init_466 : decode cX12_init 466 = .ok (.putfield 158, 3) := o_181 (u1_2 hc_X12_init_464 rfl) (u2_d (u1_3 hc_X12_init_464 rfl) (u1_4 hc_X12_init_464 rfl) rfl) rfl
theorem dX12_init_469 : decode cX12_init 469 = .ok (.return_, 1) := o_177 (u1_5 hc_X12_init_464 rfl) rfl
theorem hc_X12_in_0 : ((bL cX12_in).drop 0).take 18 = [30, 32, 148, 155, 0, 14, 30, 22, 4, 148, 157, 0, 7, 4, 167, 0, 4, 3] := by decide +kernel
theorem dX12_in_0 : decode cX12_in 0 = .ok (.lload_n 0, 1) := o_30 (u1_0 hc_X12_in_0 rfl) rfl
theorem dX12_in_1 : decode cX12_in 1 = .ok (.lload_n 2, 1) := o_32 (u1_1 hc_X12_in_0 rfl) rfl
theorem dX12_in_2 : decode cX12_in 2 = .ok (.lcmp, 1) := o_148 (u1_2 hc_X12_in_0 rfl) rfl
theorem dX12_in_3 : decode cX12_in 3 = .ok (.ifCond .lt 14, 3) := o_155 (u1_3 hc_X12_in_0 rfl) (s2_d (u2_d (u1_4 hc_X12_in_0 rfl) (u1_5 hc_X12_in_0 rfl) rfl) rfl) rfl
theorem dX12_in_6 : decode cX12_in 6 = .ok (.lload_n 0, 1) := o_30 (u1_6 hc_X12_in_0 rfl) rfl
theorem dX12_in_7 : decode cX12_in 7 = .ok (.lload 4, 2) := o_22 (u1_7 hc_X12_in_0 rfl) (u1_8 hc_X12_in_0 rfl) rfl
theorem dX12_in_9 : decode cX12_in 9 = .ok (.lcmp, 1) := o_148 (u1_9 hc_X12_in_0 rfl) rfl
theorem dX12_in_10 : decode cX12_in 10 = .ok (.ifCond .gt 7, 3) := o_157 (u1_10 hc_X12_in_0 rfl) (s2_d (u2_d (u1_11 hc_X12_in_0 rfl) (u1_12 hc_X12_in_0 rfl) rfl) rfl) rfl
theorem dX12_in_13 : decode cX12_in 13 = .ok (.iconst 1, 1) := o_4 (u1_13 hc_X12_in_0 rfl) rfl
theorem dX12_in_14 : decode cX12_in 14 = .ok (.goto 4, 3) := o_167 (u1_14 hc_X12_in_0 rfl) (s2_d (u2_d (u1_15 hc_X12_in_0 rfl) (u1_16 hc_X12_in_0 rfl) rfl) rfl) rfl
theorem hc_X12_in_16 : ((bL cX12_in).drop 16).take 18 = [4, 3, 172] := by decide +kernel
theorem dX12_in_17 : decode cX12_in 17 = .ok (.iconst 0, 1) := o_3 (u1_1 hc_X12_in_16 rfl) rfl
theorem dX12_in_18 : decode cX12_in 18 = .ok (.ireturn, 1) := o_172 (u1_2 hc_X12_in_16 rfl) rfl
theorem hc_X12_meets_0 : ((bL cX12_meets).drop 0).take 18 = [42, 27, 181, 0, 161, 42, 180, 0, 7, 27, 92, 46, 4, 96, 79, 16, 253, 172] := by decide +kernel
theorem dX12_meets_0 : decode cX12_meets 0 = .ok (.aload_n 0, 1) := o_42 (u1_0 hc_X12_meets_0 rfl) rfl
theorem dX12_meets_1 : decode cX12_meets 1 = .ok (.iload_n 1, 1) := o_27 (u1_1 hc_X12_meets_0 rfl) rfl
theorem dX12_meets_2 : decode cX12_meets 2 = .ok (.putfield 161, 3) := o_181 (u1_2 hc_X12_meets_0 rfl) (u2_d (u1_3 hc_X12_meets_0 rfl) (u1_4 hc_X12_meets_0 rfl) rfl) rfl
theorem dX12_meets_5 : decode cX12_meets 5 = .ok (.aload_n 0, 1) := o_42 (u1_5 hc_X12_meets_0 rfl) rfl
theorem dX12_meets_6 : decode cX12_meets 6 = .ok (.getfield 7, 3) := o_180 (u1_6 hc_X12_meets_0 rfl) (u2_d (u1_7 hc_X12_meets_0 rfl) (u1_8 hc_X12_meets_0 rfl) rfl) rfl
theorem dX12_meets_9 : decode cX12_meets 9 = .ok (.iload_n 1, 1) := o_27 (u1_9 hc_X12_meets_0 rfl) rfl
theorem dX12_meets_10 : decode cX12_meets 10 = .ok (.dup2, 1) := o_92 (u1_10 hc_X12_meets_0 rfl) rfl
theorem dX12_meets_11 : decode cX12_meets 11 = .ok (.iaload, 1) := o_46 (u1_11 hc_X12_meets_0 rfl) rfl
theorem dX12_meets_12 : decode cX12_meets 12 = .ok (.iconst 1, 1) := o_4 (u1_12 hc_X12_meets_0 rfl) rfl
theorem dX12_meets_13 : decode cX12_meets 13 = .ok (.iadd, 1) := o_96 (u1_13 hc_X12_meets_0 rfl) rfl
theorem dX12_meets_14 : decode cX12_meets 14 = .ok (.iastore, 1) := o_79 (u1_14 hc_X12_meets_0 rfl) rfl
theorem dX12_meets_15 : decode cX12_meets 15 = .ok (.bipush (-3), 2) := o_16 (u1_15 hc_X12_meets_0 rfl) (s1_d (u1_16 hc_X12_meets_0 rfl) rfl) rfl
theorem hc_X12_meets_16 : ((bL cX12_meets).drop 16).take 18 = [253, 172] := by decide +kernel
theorem dX12_meets_17 : decode cX12_meets 17 = .ok (.ireturn, 1) := o_172 (u1_1 hc_X12_meets_16 rfl) rfl
theorem hc_X12_finding_0 : ((bL cX12_finding).drop 0).take 18 = [42, 180, 0, 161, 172] := by decide +kernel
theorem dX12_finding_0 : decode cX12_finding 0 = .ok (.aload_n 0, 1) := o_42 (u1_0 hc_X12_finding_0 rfl) rfl
theorem dX12_finding_1 : decode cX12_finding 1 = .ok (.getfield 161, 3) := o_180 (u1_1 hc_X12_finding_0 rfl) (u2_d (u1_2 hc_X12_finding_0 rfl) (u1_3 hc_X12_finding_0 rfl) rfl) rfl
theorem dX12_finding_4 : decode cX12_finding 4 = .ok (.ireturn, 1) := o_172 (u1_4 hc_X12_finding_0 rfl) rfl
theorem hc_X12_findings_0 : ((bL cX12_findings).drop 0).take 18 = [27, 133, 10, 20, 0, 164, 184, 0, 166, 153, 0, 12, 42, 180, 0, 7, 27, 46] := by decide +kernel
theorem dX12_findings_0 : decode cX12_findings 0 = .ok (.iload_n 1, 1) := o_27 (u1_0 hc_X12_findings_0 rfl) rfl
theorem dX12_findings_1 : decode cX12_findings 1 = .ok (.i2l, 1) := o_133 (u1_1 hc_X12_findings_0 rfl) rfl
theorem dX12_findings_2 : decode cX12_findings 2 = .ok (.lconst 1, 1) := o_10 (u1_2 hc_X12_findings_0 rfl) rfl
theorem dX12_findings_3 : decode cX12_findings 3 = .ok (.ldc2_w 164, 3) := o_20 (u1_3 hc_X12_findings_0 rfl) (u2_d (u1_4 hc_X12_findings_0 rfl) (u1_5 hc_X12_findings_0 rfl) rfl) rfl
theorem dX12_findings_6 : decode cX12_findings 6 = .ok (.invokestatic 166, 3) := o_184 (u1_6 hc_X12_findings_0 rfl) (u2_d (u1_7 hc_X12_findings_0 rfl) (u1_8 hc_X12_findings_0 rfl) rfl) rfl
theorem dX12_findings_9 : decode cX12_findings 9 = .ok (.ifCond .eq 12, 3) := o_153 (u1_9 hc_X12_findings_0 rfl) (s2_d (u2_d (u1_10 hc_X12_findings_0 rfl) (u1_11 hc_X12_findings_0 rfl) rfl) rfl) rfl
theorem dX12_findings_12 : decode cX12_findings 12 = .ok (.aload_n 0, 1) := o_42 (u1_12 hc_X12_findings_0 rfl) rfl
theorem dX12_findings_13 : decode cX12_findings 13 = .ok (.getfield 7, 3) := o_180 (u1_13 hc_X12_findings_0 rfl) (u2_d (u1_14 hc_X12_findings_0 rfl) (u1_15 hc_X12_findings_0 rfl) rfl) rfl
theorem hc_X12_findings_16 : ((bL cX12_findings).drop 16).take 18 = [27, 46, 167, 0, 4, 2, 172] := by decide +kernel
theorem dX12_findings_16 : decode cX12_findings 16 = .ok (.iload_n 1, 1) := o_27 (u1_0 hc_X12_findings_16 rfl) rfl
theorem dX12_findings_17 : decode cX12_findings 17 = .ok (.iaload, 1) := o_46 (u1_1 hc_X12_findings_16 rfl) rfl
theorem dX12_findings_18 : decode cX12_findings 18 = .ok (.goto 4, 3) := o_167 (u1_2 hc_X12_findings_16 rfl) (s2_d (u2_d (u1_3 hc_X12_findings_16 rfl) (u1_4 hc_X12_findings_16 rfl) rfl) rfl) rfl
theorem dX12_findings_21 : decode cX12_findings 21 = .ok (.iconst (-1), 1) := o_2 (u1_5 hc_X12_findings_16 rfl) rfl
theorem dX12_findings_22 : decode cX12_findings 22 = .ok (.ireturn, 1) := o_172 (u1_6 hc_X12_findings_16 rfl) rfl
theorem hc_X12_kind_0 : ((bL cX12_kind).drop 0).take 18 = [27, 133, 9, 42, 180, 0, 151, 4, 100, 133, 184, 0, 166, 154, 0, 5, 2, 172] := by decide +kernel
theorem dX12_kind_0 : decode cX12_kind 0 = .ok (.iload_n 1, 1) := o_27 (u1_0 hc_X12_kind_0 rfl) rfl
theorem dX12_kind_1 : decode cX12_kind 1 = .ok (.i2l, 1) := o_133 (u1_1 hc_X12_kind_0 rfl) rfl
theorem dX12_kind_2 : decode cX12_kind 2 = .ok (.lconst 0, 1) := o_9 (u1_2 hc_X12_kind_0 rfl) rfl
theorem dX12_kind_3 : decode cX12_kind 3 = .ok (.aload_n 0, 1) := o_42 (u1_3 hc_X12_kind_0 rfl) rfl
theorem dX12_kind_4 : decode cX12_kind 4 = .ok (.getfield 151, 3) := o_180 (u1_4 hc_X12_kind_0 rfl) (u2_d (u1_5 hc_X12_kind_0 rfl) (u1_6 hc_X12_kind_0 rfl) rfl) rfl
theorem dX12_kind_7 : decode cX12_kind 7 = .ok (.iconst 1, 1) := o_4 (u1_7 hc_X12_kind_0 rfl) rfl
theorem dX12_kind_8 : decode cX12_kind 8 = .ok (.isub, 1) := o_100 (u1_8 hc_X12_kind_0 rfl) rfl
theorem dX12_kind_9 : decode cX12_kind 9 = .ok (.i2l, 1) := o_133 (u1_9 hc_X12_kind_0 rfl) rfl
theorem dX12_kind_10 : decode cX12_kind 10 = .ok (.invokestatic 166, 3) := o_184 (u1_10 hc_X12_kind_0 rfl) (u2_d (u1_11 hc_X12_kind_0 rfl) (u1_12 hc_X12_kind_0 rfl) rfl) rfl
theorem dX12_kind_13 : decode cX12_kind 13 = .ok (.ifCond .ne 5, 3) := o_154 (u1_13 hc_X12_kind_0 rfl) (s2_d (u2_d (u1_14 hc_X12_kind_0 rfl) (u1_15 hc_X12_kind_0 rfl) rfl) rfl) rfl
theorem hc_X12_kind_16 : ((bL cX12_kind).drop 16).take 18 = [2, 172, 42, 180, 0, 151, 16, 24, 160, 0, 6, 16, 254, 172, 42, 180, 0, 13] := by decide +kernel
theorem dX12_kind_16 : decode cX12_kind 16 = .ok (.iconst (-1), 1) := o_2 (u1_0 hc_X12_kind_16 rfl) rfl
theorem dX12_kind_17 : decode cX12_kind 17 = .ok (.ireturn, 1) := o_172 (u1_1 hc_X12_kind_16 rfl) rfl
theorem dX12_kind_18 : decode cX12_kind 18 = .ok (.aload_n 0, 1) := o_42 (u1_2 hc_X12_kind_16 rfl) rfl
theorem dX12_kind_19 : decode cX12_kind 19 = .ok (.getfield 151, 3) := o_180 (u1_3 hc_X12_kind_16 rfl) (u2_d (u1_4 hc_X12_kind_16 rfl) (u1_5 hc_X12_kind_16 rfl) rfl) rfl
theorem dX12_kind_22 : decode cX12_kind 22 = .ok (.bipush 24, 2) := o_16 (u1_6 hc_X12_kind_16 rfl) (s1_d (u1_7 hc_X12_kind_16 rfl) rfl) rfl
theorem dX12_kind_24 : decode cX12_kind 24 = .ok (.if_icmp .ne 6, 3) := o_160 (u1_8 hc_X12_kind_16 rfl) (s2_d (u2_d (u1_9 hc_X12_kind_16 rfl) (u1_10 hc_X12_kind_16 rfl) rfl) rfl) rfl
theorem dX12_kind_27 : decode cX12_kind 27 = .ok (.bipush (-2), 2) := o_16 (u1_11 hc_X12_kind_16 rfl) (s1_d (u1_12 hc_X12_kind_16 rfl) rfl) rfl
theorem dX12_kind_29 : decode cX12_kind 29 = .ok (.ireturn, 1) := o_172 (u1_13 hc_X12_kind_16 rfl) rfl
theorem dX12_kind_30 : decode cX12_kind 30 = .ok (.aload_n 0, 1) := o_42 (u1_14 hc_X12_kind_16 rfl) rfl
theorem dX12_kind_31 : decode cX12_kind 31 = .ok (.getfield 13, 3) := o_180 (u1_15 hc_X12_kind_16 rfl) (u2_d (u1_16 hc_X12_kind_16 rfl) (u1_17 hc_X12_kind_16 rfl) rfl) rfl
theorem hc_X12_kind_32 : ((bL cX12_kind).drop 32).take 18 = [0, 13, 42, 180, 0, 151, 27, 79, 42, 89, 180, 0, 151, 4, 96, 181, 0, 151] := by decide +kernel
theorem dX12_kind_34 : decode cX12_kind 34 = .ok (.aload_n 0, 1) := o_42 (u1_2 hc_X12_kind_32 rfl) rfl
theorem dX12_kind_35 : decode cX12_kind 35 = .ok (.getfield 151, 3) := o_180 (u1_3 hc_X12_kind_32 rfl) (u2_d (u1_4 hc_X12_kind_32 rfl) (u1_5 hc_X12_kind_32 rfl) rfl) rfl
theorem dX12_kind_38 : decode cX12_kind 38 = .ok (.iload_n 1, 1) := o_27 (u1_6 hc_X12_kind_32 rfl) rfl
theorem dX12_kind_39 : decode cX12_kind 39 = .ok (.iastore, 1) := o_79 (u1_7 hc_X12_kind_32 rfl) rfl
theorem dX12_kind_40 : decode cX12_kind 40 = .ok (.aload_n 0, 1) := o_42 (u1_8 hc_X12_kind_32 rfl) rfl
theorem dX12_kind_41 : decode cX12_kind 41 = .ok (.dup, 1) := o_89 (u1_9 hc_X12_kind_32 rfl) rfl
theorem dX12_kind_42 : decode cX12_kind 42 = .ok (.getfield 151, 3) := o_180 (u1_10 hc_X12_kind_32 rfl) (u2_d (u1_11 hc_X12_kind_32 rfl) (u1_12 hc_X12_kind_32 rfl) rfl) rfl
theorem dX12_kind_45 : decode cX12_kind 45 = .ok (.iconst 1, 1) := o_4 (u1_13 hc_X12_kind_32 rfl) rfl
theorem dX12_kind_46 : decode cX12_kind 46 = .ok (.iadd, 1) := o_96 (u1_14 hc_X12_kind_32 rfl) rfl
theorem dX12_kind_47 : decode cX12_kind 47 = .ok (.putfield 151, 3) := o_181 (u1_15 hc_X12_kind_32 rfl) (u2_d (u1_16 hc_X12_kind_32 rfl) (u1_17 hc_X12_kind_32 rfl) rfl) rfl
theorem hc_X12_kind_48 : ((bL cX12_kind).drop 48).take 18 = [0, 151, 42, 180, 0, 151, 4, 100, 172] := by decide +kernel
theorem dX12_kind_50 : decode cX12_kind 50 = .ok (.aload_n 0, 1) := o_42 (u1_2 hc_X12_kind_48 rfl) rfl
theorem dX12_kind_51 : decode cX12_kind 51 = .ok (.getfield 151, 3) := o_180 (u1_3 hc_X12_kind_48 rfl) (u2_d (u1_4 hc_X12_kind_48 rfl) (u1_5 hc_X12_kind_48 rfl) rfl) rfl
theorem dX12_kind_54 : decode cX12_kind 54 = .ok (.iconst 1, 1) := o_4 (u1_6 hc_X12_kind_48 rfl) rfl
theorem dX12_kind_55 : decode cX12_kind 55 = .ok (.isub, 1) := o_100 (u1_7 hc_X12_kind_48 rfl) rfl
theorem dX12_kind_56 : decode cX12_kind 56 = .ok (.ireturn, 1) := o_172 (u1_8 hc_X12_kind_48 rfl) rfl
theorem hc_X12_standard_0 : ((bL cX12_standard).drop 0).take 18 = [27, 133, 9, 42, 180, 0, 151, 4, 100, 133, 184, 0, 166, 153, 0, 31, 28, 133] := by decide +kernel
theorem dX12_standard_0 : decode cX12_standard 0 = .ok (.iload_n 1, 1) := o_27 (u1_0 hc_X12_standard_0 rfl) rfl
theorem dX12_standard_1 : decode cX12_standard 1 = .ok (.i2l, 1) := o_133 (u1_1 hc_X12_standard_0 rfl) rfl
theorem dX12_standard_2 : decode cX12_standard 2 = .ok (.lconst 0, 1) := o_9 (u1_2 hc_X12_standard_0 rfl) rfl
theorem dX12_standard_3 : decode cX12_standard 3 = .ok (.aload_n 0, 1) := o_42 (u1_3 hc_X12_standard_0 rfl) rfl
theorem dX12_standard_4 : decode cX12_standard 4 = .ok (.getfield 151, 3) := o_180 (u1_4 hc_X12_standard_0 rfl) (u2_d (u1_5 hc_X12_standard_0 rfl) (u1_6 hc_X12_standard_0 rfl) rfl) rfl
theorem dX12_standard_7 : decode cX12_standard 7 = .ok (.iconst 1, 1) := o_4 (u1_7 hc_X12_standard_0 rfl) rfl
theorem dX12_standard_8 : decode cX12_standard 8 = .ok (.isub, 1) := o_100 (u1_8 hc_X12_standard_0 rfl) rfl
theorem dX12_standard_9 : decode cX12_standard 9 = .ok (.i2l, 1) := o_133 (u1_9 hc_X12_standard_0 rfl) rfl
theorem dX12_standard_10 : decode cX12_standard 10 = .ok (.invokestatic 166, 3) := o_184 (u1_10 hc_X12_standard_0 rfl) (u2_d (u1_11 hc_X12_standard_0 rfl) (u1_12 hc_X12_standard_0 rfl) rfl) rfl
theorem dX12_standard_13 : decode cX12_standard 13 = .ok (.ifCond .eq 31, 3) := o_153 (u1_13 hc_X12_standard_0 rfl) (s2_d (u2_d (u1_14 hc_X12_standard_0 rfl) (u1_15 hc_X12_standard_0 rfl) rfl) rfl) rfl
theorem hc_X12_standard_16 : ((bL cX12_standard).drop 16).take 18 = [28, 133, 9, 20, 0, 170, 184, 0, 166, 153, 0, 19, 29, 133, 9, 10, 184, 0] := by decide +kernel
theorem dX12_standard_16 : decode cX12_standard 16 = .ok (.iload_n 2, 1) := o_28 (u1_0 hc_X12_standard_16 rfl) rfl
theorem dX12_standard_17 : decode cX12_standard 17 = .ok (.i2l, 1) := o_133 (u1_1 hc_X12_standard_16 rfl) rfl
theorem dX12_standard_18 : decode cX12_standard 18 = .ok (.lconst 0, 1) := o_9 (u1_2 hc_X12_standard_16 rfl) rfl
theorem dX12_standard_19 : decode cX12_standard 19 = .ok (.ldc2_w 170, 3) := o_20 (u1_3 hc_X12_standard_16 rfl) (u2_d (u1_4 hc_X12_standard_16 rfl) (u1_5 hc_X12_standard_16 rfl) rfl) rfl
theorem dX12_standard_22 : decode cX12_standard 22 = .ok (.invokestatic 166, 3) := o_184 (u1_6 hc_X12_standard_16 rfl) (u2_d (u1_7 hc_X12_standard_16 rfl) (u1_8 hc_X12_standard_16 rfl) rfl) rfl
theorem dX12_standard_25 : decode cX12_standard 25 = .ok (.ifCond .eq 19, 3) := o_153 (u1_9 hc_X12_standard_16 rfl) (s2_d (u2_d (u1_10 hc_X12_standard_16 rfl) (u1_11 hc_X12_standard_16 rfl) rfl) rfl) rfl
theorem dX12_standard_28 : decode cX12_standard 28 = .ok (.iload_n 3, 1) := o_29 (u1_12 hc_X12_standard_16 rfl) rfl
theorem dX12_standard_29 : decode cX12_standard 29 = .ok (.i2l, 1) := o_133 (u1_13 hc_X12_standard_16 rfl) rfl
theorem dX12_standard_30 : decode cX12_standard 30 = .ok (.lconst 0, 1) := o_9 (u1_14 hc_X12_standard_16 rfl) rfl
theorem dX12_standard_31 : decode cX12_standard 31 = .ok (.lconst 1, 1) := o_10 (u1_15 hc_X12_standard_16 rfl) rfl
theorem hc_X12_standard_32 : ((bL cX12_standard).drop 32).take 18 = [184, 0, 166, 154, 0, 11, 29, 16, 247, 159, 0, 5, 2, 172, 42, 180, 0, 16] := by decide +kernel
theorem dX12_standard_32 : decode cX12_standard 32 = .ok (.invokestatic 166, 3) := o_184 (u1_0 hc_X12_standard_32 rfl) (u2_d (u1_1 hc_X12_standard_32 rfl) (u1_2 hc_X12_standard_32 rfl) rfl) rfl
theorem dX12_standard_35 : decode cX12_standard 35 = .ok (.ifCond .ne 11, 3) := o_154 (u1_3 hc_X12_standard_32 rfl) (s2_d (u2_d (u1_4 hc_X12_standard_32 rfl) (u1_5 hc_X12_standard_32 rfl) rfl) rfl) rfl
theorem dX12_standard_38 : decode cX12_standard 38 = .ok (.iload_n 3, 1) := o_29 (u1_6 hc_X12_standard_32 rfl) rfl
theorem dX12_standard_39 : decode cX12_standard 39 = .ok (.bipush (-9), 2) := o_16 (u1_7 hc_X12_standard_32 rfl) (s1_d (u1_8 hc_X12_standard_32 rfl) rfl) rfl
theorem dX12_standard_41 : decode cX12_standard 41 = .ok (.if_icmp .eq 5, 3) := o_159 (u1_9 hc_X12_standard_32 rfl) (s2_d (u2_d (u1_10 hc_X12_standard_32 rfl) (u1_11 hc_X12_standard_32 rfl) rfl) rfl) rfl
theorem dX12_standard_44 : decode cX12_standard 44 = .ok (.iconst (-1), 1) := o_2 (u1_12 hc_X12_standard_32 rfl) rfl
theorem dX12_standard_45 : decode cX12_standard 45 = .ok (.ireturn, 1) := o_172 (u1_13 hc_X12_standard_32 rfl) rfl
theorem dX12_standard_46 : decode cX12_standard 46 = .ok (.aload_n 0, 1) := o_42 (u1_14 hc_X12_standard_32 rfl) rfl
theorem dX12_standard_47 : decode cX12_standard 47 = .ok (.getfield 16, 3) := o_180 (u1_15 hc_X12_standard_32 rfl) (u2_d (u1_16 hc_X12_standard_32 rfl) (u1_17 hc_X12_standard_32 rfl) rfl) rfl
theorem hc_X12_standard_48 : ((bL cX12_standard).drop 48).take 18 = [0, 16, 16, 6, 27, 104, 28, 96, 46, 54, 4, 42, 180, 0, 16, 16, 6, 27] := by decide +kernel
theorem dX12_standard_50 : decode cX12_standard 50 = .ok (.bipush 6, 2) := o_16 (u1_2 hc_X12_standard_48 rfl) (s1_d (u1_3 hc_X12_standard_48 rfl) rfl) rfl
theorem dX12_standard_52 : decode cX12_standard 52 = .ok (.iload_n 1, 1) := o_27 (u1_4 hc_X12_standard_48 rfl) rfl
theorem dX12_standard_53 : decode cX12_standard 53 = .ok (.imul, 1) := o_104 (u1_5 hc_X12_standard_48 rfl) rfl
theorem dX12_standard_54 : decode cX12_standard 54 = .ok (.iload_n 2, 1) := o_28 (u1_6 hc_X12_standard_48 rfl) rfl
theorem dX12_standard_55 : decode cX12_standard 55 = .ok (.iadd, 1) := o_96 (u1_7 hc_X12_standard_48 rfl) rfl
theorem dX12_standard_56 : decode cX12_standard 56 = .ok (.iaload, 1) := o_46 (u1_8 hc_X12_standard_48 rfl) rfl
theorem dX12_standard_57 : decode cX12_standard 57 = .ok (.istore 4, 2) := o_54 (u1_9 hc_X12_standard_48 rfl) (u1_10 hc_X12_standard_48 rfl) rfl
theorem dX12_standard_59 : decode cX12_standard 59 = .ok (.aload_n 0, 1) := o_42 (u1_11 hc_X12_standard_48 rfl) rfl
theorem dX12_standard_60 : decode cX12_standard 60 = .ok (.getfield 16, 3) := o_180 (u1_12 hc_X12_standard_48 rfl) (u2_d (u1_13 hc_X12_standard_48 rfl) (u1_14 hc_X12_standard_48 rfl) rfl) rfl
theorem dX12_standard_63 : decode cX12_standard 63 = .ok (.bipush 6, 2) := o_16 (u1_15 hc_X12_standard_48 rfl) (s1_d (u1_16 hc_X12_standard_48 rfl) rfl) rfl
theorem hc_X12_standard_64 : ((bL cX12_standard).drop 64).take 18 = [6, 27, 104, 28, 96, 29, 79, 42, 182, 0, 172, 21, 4, 172] := by decide +kernel
theorem dX12_standard_65 : decode cX12_standard 65 = .ok (.iload_n 1, 1) := o_27 (u1_1 hc_X12_standard_64 rfl) rfl
theorem dX12_standard_66 : decode cX12_standard 66 = .ok (.imul, 1) := o_104 (u1_2 hc_X12_standard_64 rfl) rfl
theorem dX12_standard_67 : decode cX12_standard 67 = .ok (.iload_n 2, 1) := o_28 (u1_3 hc_X12_standard_64 rfl) rfl
theorem dX12_standard_68 : decode cX12_standard 68 = .ok (.iadd, 1) := o_96 (u1_4 hc_X12_standard_64 rfl) rfl
theorem dX12_standard_69 : decode cX12_standard 69 = .ok (.iload_n 3, 1) := o_29 (u1_5 hc_X12_standard_64 rfl) rfl
theorem dX12_standard_70 : decode cX12_standard 70 = .ok (.iastore, 1) := o_79 (u1_6 hc_X12_standard_64 rfl) rfl
theorem dX12_standard_71 : decode cX12_standard 71 = .ok (.aload_n 0, 1) := o_42 (u1_7 hc_X12_standard_64 rfl) rfl
theorem dX12_standard_72 : decode cX12_standard 72 = .ok (.invokevirtual 172, 3) := o_182 (u1_8 hc_X12_standard_64 rfl) (u2_d (u1_9 hc_X12_standard_64 rfl) (u1_10 hc_X12_standard_64 rfl) rfl) rfl
theorem dX12_standard_75 : decode cX12_standard 75 = .ok (.iload 4, 2) := o_21 (u1_11 hc_X12_standard_64 rfl) (u1_12 hc_X12_standard_64 rfl) rfl
theorem dX12_standard_77 : decode cX12_standard 77 = .ok (.ireturn, 1) := o_172 (u1_13 hc_X12_standard_64 rfl) rfl
theorem hc_X12_make_0 : ((bL cX12_make).drop 0).take 18 = [27, 133, 9, 42, 180, 0, 151, 4, 100, 133, 184, 0, 166, 153, 0, 15, 28, 133] := by decide +kernel
theorem dX12_make_0 : decode cX12_make 0 = .ok (.iload_n 1, 1) := o_27 (u1_0 hc_X12_make_0 rfl) rfl
theorem dX12_make_1 : decode cX12_make 1 = .ok (.i2l, 1) := o_133 (u1_1 hc_X12_make_0 rfl) rfl
theorem dX12_make_2 : decode cX12_make 2 = .ok (.lconst 0, 1) := o_9 (u1_2 hc_X12_make_0 rfl) rfl
theorem dX12_make_3 : decode cX12_make 3 = .ok (.aload_n 0, 1) := o_42 (u1_3 hc_X12_make_0 rfl) rfl
theorem dX12_make_4 : decode cX12_make 4 = .ok (.getfield 151, 3) := o_180 (u1_4 hc_X12_make_0 rfl) (u2_d (u1_5 hc_X12_make_0 rfl) (u1_6 hc_X12_make_0 rfl) rfl) rfl
theorem dX12_make_7 : decode cX12_make 7 = .ok (.iconst 1, 1) := o_4 (u1_7 hc_X12_make_0 rfl) rfl
theorem dX12_make_8 : decode cX12_make 8 = .ok (.isub, 1) := o_100 (u1_8 hc_X12_make_0 rfl) rfl
theorem dX12_make_9 : decode cX12_make 9 = .ok (.i2l, 1) := o_133 (u1_9 hc_X12_make_0 rfl) rfl
theorem dX12_make_10 : decode cX12_make 10 = .ok (.invokestatic 166, 3) := o_184 (u1_10 hc_X12_make_0 rfl) (u2_d (u1_11 hc_X12_make_0 rfl) (u1_12 hc_X12_make_0 rfl) rfl) rfl
theorem dX12_make_13 : decode cX12_make 13 = .ok (.ifCond .eq 15, 3) := o_153 (u1_13 hc_X12_make_0 rfl) (s2_d (u2_d (u1_14 hc_X12_make_0 rfl) (u1_15 hc_X12_make_0 rfl) rfl) rfl) rfl
theorem hc_X12_make_16 : ((bL cX12_make).drop 16).take 18 = [28, 133, 9, 20, 0, 175, 184, 0, 166, 154, 0, 5, 2, 172, 42, 180, 0, 177] := by decide +kernel
theorem dX12_make_16 : decode cX12_make 16 = .ok (.iload_n 2, 1) := o_28 (u1_0 hc_X12_make_16 rfl) rfl
theorem dX12_make_17 : decode cX12_make 17 = .ok (.i2l, 1) := o_133 (u1_1 hc_X12_make_16 rfl) rfl
theorem dX12_make_18 : decode cX12_make 18 = .ok (.lconst 0, 1) := o_9 (u1_2 hc_X12_make_16 rfl) rfl
theorem dX12_make_19 : decode cX12_make 19 = .ok (.ldc2_w 175, 3) := o_20 (u1_3 hc_X12_make_16 rfl) (u2_d (u1_4 hc_X12_make_16 rfl) (u1_5 hc_X12_make_16 rfl) rfl) rfl
theorem dX12_make_22 : decode cX12_make 22 = .ok (.invokestatic 166, 3) := o_184 (u1_6 hc_X12_make_16 rfl) (u2_d (u1_7 hc_X12_make_16 rfl) (u1_8 hc_X12_make_16 rfl) rfl) rfl
theorem dX12_make_25 : decode cX12_make 25 = .ok (.ifCond .ne 5, 3) := o_154 (u1_9 hc_X12_make_16 rfl) (s2_d (u2_d (u1_10 hc_X12_make_16 rfl) (u1_11 hc_X12_make_16 rfl) rfl) rfl) rfl
theorem dX12_make_28 : decode cX12_make 28 = .ok (.iconst (-1), 1) := o_2 (u1_12 hc_X12_make_16 rfl) rfl
theorem dX12_make_29 : decode cX12_make 29 = .ok (.ireturn, 1) := o_172 (u1_13 hc_X12_make_16 rfl) rfl
theorem dX12_make_30 : decode cX12_make 30 = .ok (.aload_n 0, 1) := o_42 (u1_14 hc_X12_make_16 rfl) rfl
theorem dX12_make_31 : decode cX12_make 31 = .ok (.getfield 177, 3) := o_180 (u1_15 hc_X12_make_16 rfl) (u2_d (u1_16 hc_X12_make_16 rfl) (u1_17 hc_X12_make_16 rfl) rfl) rfl
theorem hc_X12_make_32 : ((bL cX12_make).drop 32).take 18 = [0, 177, 16, 30, 160, 0, 6, 16, 254, 172, 42, 180, 0, 19, 42, 180, 0, 177] := by decide +kernel
theorem dX12_make_34 : decode cX12_make 34 = .ok (.bipush 30, 2) := o_16 (u1_2 hc_X12_make_32 rfl) (s1_d (u1_3 hc_X12_make_32 rfl) rfl) rfl
theorem dX12_make_36 : decode cX12_make 36 = .ok (.if_icmp .ne 6, 3) := o_160 (u1_4 hc_X12_make_32 rfl) (s2_d (u2_d (u1_5 hc_X12_make_32 rfl) (u1_6 hc_X12_make_32 rfl) rfl) rfl) rfl
theorem dX12_make_39 : decode cX12_make 39 = .ok (.bipush (-2), 2) := o_16 (u1_7 hc_X12_make_32 rfl) (s1_d (u1_8 hc_X12_make_32 rfl) rfl) rfl
theorem dX12_make_41 : decode cX12_make 41 = .ok (.ireturn, 1) := o_172 (u1_9 hc_X12_make_32 rfl) rfl
theorem dX12_make_42 : decode cX12_make 42 = .ok (.aload_n 0, 1) := o_42 (u1_10 hc_X12_make_32 rfl) rfl
theorem dX12_make_43 : decode cX12_make 43 = .ok (.getfield 19, 3) := o_180 (u1_11 hc_X12_make_32 rfl) (u2_d (u1_12 hc_X12_make_32 rfl) (u1_13 hc_X12_make_32 rfl) rfl) rfl
theorem dX12_make_46 : decode cX12_make 46 = .ok (.aload_n 0, 1) := o_42 (u1_14 hc_X12_make_32 rfl) rfl
theorem dX12_make_47 : decode cX12_make 47 = .ok (.getfield 177, 3) := o_180 (u1_15 hc_X12_make_32 rfl) (u2_d (u1_16 hc_X12_make_32 rfl) (u1_17 hc_X12_make_32 rfl) rfl) rfl
theorem hc_X12_make_48 : ((bL cX12_make).drop 48).take 18 = [0, 177, 27, 79, 42, 180, 0, 22, 42, 180, 0, 177, 28, 79, 42, 89, 180, 0] := by decide +kernel
theorem dX12_make_50 : decode cX12_make 50 = .ok (.iload_n 1, 1) := o_27 (u1_2 hc_X12_make_48 rfl) rfl
theorem dX12_make_51 : decode cX12_make 51 = .ok (.iastore, 1) := o_79 (u1_3 hc_X12_make_48 rfl) rfl
theorem dX12_make_52 : decode cX12_make 52 = .ok (.aload_n 0, 1) := o_42 (u1_4 hc_X12_make_48 rfl) rfl
theorem dX12_make_53 : decode cX12_make 53 = .ok (.getfield 22, 3) := o_180 (u1_5 hc_X12_make_48 rfl) (u2_d (u1_6 hc_X12_make_48 rfl) (u1_7 hc_X12_make_48 rfl) rfl) rfl
theorem dX12_make_56 : decode cX12_make 56 = .ok (.aload_n 0, 1) := o_42 (u1_8 hc_X12_make_48 rfl) rfl
theorem dX12_make_57 : decode cX12_make 57 = .ok (.getfield 177, 3) := o_180 (u1_9 hc_X12_make_48 rfl) (u2_d (u1_10 hc_X12_make_48 rfl) (u1_11 hc_X12_make_48 rfl) rfl) rfl
theorem dX12_make_60 : decode cX12_make 60 = .ok (.iload_n 2, 1) := o_28 (u1_12 hc_X12_make_48 rfl) rfl
theorem dX12_make_61 : decode cX12_make 61 = .ok (.iastore, 1) := o_79 (u1_13 hc_X12_make_48 rfl) rfl
theorem dX12_make_62 : decode cX12_make 62 = .ok (.aload_n 0, 1) := o_42 (u1_14 hc_X12_make_48 rfl) rfl
theorem dX12_make_63 : decode cX12_make 63 = .ok (.dup, 1) := o_89 (u1_15 hc_X12_make_48 rfl) rfl
theorem hc_X12_make_64 : ((bL cX12_make).drop 64).take 18 = [180, 0, 177, 4, 96, 181, 0, 177, 42, 182, 0, 172, 42, 180, 0, 177, 4, 100] := by decide +kernel
theorem dX12_make_64 : decode cX12_make 64 = .ok (.getfield 177, 3) := o_180 (u1_0 hc_X12_make_64 rfl) (u2_d (u1_1 hc_X12_make_64 rfl) (u1_2 hc_X12_make_64 rfl) rfl) rfl
theorem dX12_make_67 : decode cX12_make 67 = .ok (.iconst 1, 1) := o_4 (u1_3 hc_X12_make_64 rfl) rfl
theorem dX12_make_68 : decode cX12_make 68 = .ok (.iadd, 1) := o_96 (u1_4 hc_X12_make_64 rfl) rfl
theorem dX12_make_69 : decode cX12_make 69 = .ok (.putfield 177, 3) := o_181 (u1_5 hc_X12_make_64 rfl) (u2_d (u1_6 hc_X12_make_64 rfl) (u1_7 hc_X12_make_64 rfl) rfl) rfl
theorem dX12_make_72 : decode cX12_make 72 = .ok (.aload_n 0, 1) := o_42 (u1_8 hc_X12_make_64 rfl) rfl
theorem dX12_make_73 : decode cX12_make 73 = .ok (.invokevirtual 172, 3) := o_182 (u1_9 hc_X12_make_64 rfl) (u2_d (u1_10 hc_X12_make_64 rfl) (u1_11 hc_X12_make_64 rfl) rfl) rfl
theorem dX12_make_76 : decode cX12_make 76 = .ok (.aload_n 0, 1) := o_42 (u1_12 hc_X12_make_64 rfl) rfl
theorem dX12_make_77 : decode cX12_make 77 = .ok (.getfield 177, 3) := o_180 (u1_13 hc_X12_make_64 rfl) (u2_d (u1_14 hc_X12_make_64 rfl) (u1_15 hc_X12_make_64 rfl) rfl) rfl
theorem hc_X12_make_80 : ((bL cX12_make).drop 80).take 18 = [4, 100, 172] := by decide +kernel
theorem dX12_make_80 : decode cX12_make 80 = .ok (.iconst 1, 1) := o_4 (u1_0 hc_X12_make_80 rfl) rfl
theorem dX12_make_81 : decode cX12_make 81 = .ok (.isub, 1) := o_100 (u1_1 hc_X12_make_80 rfl) rfl
theorem dX12_make_82 : decode cX12_make 82 = .ok (.ireturn, 1) := o_172 (u1_2 hc_X12_make_80 rfl) rfl
theorem hc_X12_isObject_0 : ((bL cX12_isObject).drop 0).take 18 = [27, 133, 9, 42, 180, 0, 177, 4, 100, 133, 184, 0, 166, 172] := by decide +kernel
theorem dX12_isObject_0 : decode cX12_isObject 0 = .ok (.iload_n 1, 1) := o_27 (u1_0 hc_X12_isObject_0 rfl) rfl
theorem dX12_isObject_1 : decode cX12_isObject 1 = .ok (.i2l, 1) := o_133 (u1_1 hc_X12_isObject_0 rfl) rfl
theorem dX12_isObject_2 : decode cX12_isObject 2 = .ok (.lconst 0, 1) := o_9 (u1_2 hc_X12_isObject_0 rfl) rfl
theorem dX12_isObject_3 : decode cX12_isObject 3 = .ok (.aload_n 0, 1) := o_42 (u1_3 hc_X12_isObject_0 rfl) rfl
theorem dX12_isObject_4 : decode cX12_isObject 4 = .ok (.getfield 177, 3) := o_180 (u1_4 hc_X12_isObject_0 rfl) (u2_d (u1_5 hc_X12_isObject_0 rfl) (u1_6 hc_X12_isObject_0 rfl) rfl) rfl
theorem dX12_isObject_7 : decode cX12_isObject 7 = .ok (.iconst 1, 1) := o_4 (u1_7 hc_X12_isObject_0 rfl) rfl
theorem dX12_isObject_8 : decode cX12_isObject 8 = .ok (.isub, 1) := o_100 (u1_8 hc_X12_isObject_0 rfl) rfl
theorem dX12_isObject_9 : decode cX12_isObject 9 = .ok (.i2l, 1) := o_133 (u1_9 hc_X12_isObject_0 rfl) rfl
theorem dX12_isObject_10 : decode cX12_isObject 10 = .ok (.invokestatic 166, 3) := o_184 (u1_10 hc_X12_isObject_0 rfl) (u2_d (u1_11 hc_X12_isObject_0 rfl) (u1_12 hc_X12_isObject_0 rfl) rfl) rfl
theorem dX12_isObject_13 : decode cX12_isObject 13 = .ok (.ireturn, 1) := o_172 (u1_13 hc_X12_isObject_0 rfl) rfl
theorem hc_X12_isOf_0 : ((bL cX12_isOf).drop 0).take 18 = [42, 180, 0, 19, 27, 46, 62, 29, 16, 247, 159, 0, 18, 29, 28, 159, 0, 13] := by decide +kernel
theorem dX12_isOf_0 : decode cX12_isOf 0 = .ok (.aload_n 0, 1) := o_42 (u1_0 hc_X12_isOf_0 rfl) rfl
theorem dX12_isOf_1 : decode cX12_isOf 1 = .ok (.getfield 19, 3) := o_180 (u1_1 hc_X12_isOf_0 rfl) (u2_d (u1_2 hc_X12_isOf_0 rfl) (u1_3 hc_X12_isOf_0 rfl) rfl) rfl
theorem dX12_isOf_4 : decode cX12_isOf 4 = .ok (.iload_n 1, 1) := o_27 (u1_4 hc_X12_isOf_0 rfl) rfl
theorem dX12_isOf_5 : decode cX12_isOf 5 = .ok (.iaload, 1) := o_46 (u1_5 hc_X12_isOf_0 rfl) rfl
theorem dX12_isOf_6 : decode cX12_isOf 6 = .ok (.istore_n 3, 1) := o_62 (u1_6 hc_X12_isOf_0 rfl) rfl
theorem dX12_isOf_7 : decode cX12_isOf 7 = .ok (.iload_n 3, 1) := o_29 (u1_7 hc_X12_isOf_0 rfl) rfl
theorem dX12_isOf_8 : decode cX12_isOf 8 = .ok (.bipush (-9), 2) := o_16 (u1_8 hc_X12_isOf_0 rfl) (s1_d (u1_9 hc_X12_isOf_0 rfl) rfl) rfl
theorem dX12_isOf_10 : decode cX12_isOf 10 = .ok (.if_icmp .eq 18, 3) := o_159 (u1_10 hc_X12_isOf_0 rfl) (s2_d (u2_d (u1_11 hc_X12_isOf_0 rfl) (u1_12 hc_X12_isOf_0 rfl) rfl) rfl) rfl
theorem dX12_isOf_13 : decode cX12_isOf 13 = .ok (.iload_n 3, 1) := o_29 (u1_13 hc_X12_isOf_0 rfl) rfl
theorem dX12_isOf_14 : decode cX12_isOf 14 = .ok (.iload_n 2, 1) := o_28 (u1_14 hc_X12_isOf_0 rfl) rfl
theorem dX12_isOf_15 : decode cX12_isOf 15 = .ok (.if_icmp .eq 13, 3) := o_159 (u1_15 hc_X12_isOf_0 rfl) (s2_d (u2_d (u1_16 hc_X12_isOf_0 rfl) (u1_17 hc_X12_isOf_0 rfl) rfl) rfl) rfl
theorem hc_X12_isOf_16 : ((bL cX12_isOf).drop 16).take 18 = [0, 13, 42, 180, 0, 13, 29, 46, 62, 167, 255, 238, 29, 28, 160, 0, 7, 4] := by decide +kernel
theorem dX12_isOf_18 : decode cX12_isOf 18 = .ok (.aload_n 0, 1) := o_42 (u1_2 hc_X12_isOf_16 rfl) rfl
theorem dX12_isOf_19 : decode cX12_isOf 19 = .ok (.getfield 13, 3) := o_180 (u1_3 hc_X12_isOf_16 rfl) (u2_d (u1_4 hc_X12_isOf_16 rfl) (u1_5 hc_X12_isOf_16 rfl) rfl) rfl
theorem dX12_isOf_22 : decode cX12_isOf 22 = .ok (.iload_n 3, 1) := o_29 (u1_6 hc_X12_isOf_16 rfl) rfl
theorem dX12_isOf_23 : decode cX12_isOf 23 = .ok (.iaload, 1) := o_46 (u1_7 hc_X12_isOf_16 rfl) rfl
theorem dX12_isOf_24 : decode cX12_isOf 24 = .ok (.istore_n 3, 1) := o_62 (u1_8 hc_X12_isOf_16 rfl) rfl
theorem dX12_isOf_25 : decode cX12_isOf 25 = .ok (.goto (-18), 3) := o_167 (u1_9 hc_X12_isOf_16 rfl) (s2_d (u2_d (u1_10 hc_X12_isOf_16 rfl) (u1_11 hc_X12_isOf_16 rfl) rfl) rfl) rfl
theorem dX12_isOf_28 : decode cX12_isOf 28 = .ok (.iload_n 3, 1) := o_29 (u1_12 hc_X12_isOf_16 rfl) rfl
theorem dX12_isOf_29 : decode cX12_isOf 29 = .ok (.iload_n 2, 1) := o_28 (u1_13 hc_X12_isOf_16 rfl) rfl
theorem dX12_isOf_30 : decode cX12_isOf 30 = .ok (.if_icmp .ne 7, 3) := o_160 (u1_14 hc_X12_isOf_16 rfl) (s2_d (u2_d (u1_15 hc_X12_isOf_16 rfl) (u1_16 hc_X12_isOf_16 rfl) rfl) rfl) rfl
theorem hc_X12_isOf_32 : ((bL cX12_isOf).drop 32).take 18 = [7, 4, 167, 0, 4, 3, 172] := by decide +kernel
theorem dX12_isOf_33 : decode cX12_isOf 33 = .ok (.iconst 1, 1) := o_4 (u1_1 hc_X12_isOf_32 rfl) rfl
theorem dX12_isOf_34 : decode cX12_isOf 34 = .ok (.goto 4, 3) := o_167 (u1_2 hc_X12_isOf_32 rfl) (s2_d (u2_d (u1_3 hc_X12_isOf_32 rfl) (u1_4 hc_X12_isOf_32 rfl) rfl) rfl) rfl
theorem dX12_isOf_37 : decode cX12_isOf 37 = .ok (.iconst 0, 1) := o_3 (u1_5 hc_X12_isOf_32 rfl) rfl
theorem dX12_isOf_38 : decode cX12_isOf 38 = .ok (.ireturn, 1) := o_172 (u1_6 hc_X12_isOf_32 rfl) rfl
theorem hc_X12_is_0 : ((bL cX12_is).drop 0).take 18 = [42, 27, 182, 0, 180, 153, 0, 19, 28, 133, 9, 42, 180, 0, 151, 4, 100, 133] := by decide +kernel
theorem dX12_is_0 : decode cX12_is 0 = .ok (.aload_n 0, 1) := o_42 (u1_0 hc_X12_is_0 rfl) rfl
theorem dX12_is_1 : decode cX12_is 1 = .ok (.iload_n 1, 1) := o_27 (u1_1 hc_X12_is_0 rfl) rfl
theorem dX12_is_2 : decode cX12_is 2 = .ok (.invokevirtual 180, 3) := o_182 (u1_2 hc_X12_is_0 rfl) (u2_d (u1_3 hc_X12_is_0 rfl) (u1_4 hc_X12_is_0 rfl) rfl) rfl
theorem dX12_is_5 : decode cX12_is 5 = .ok (.ifCond .eq 19, 3) := o_153 (u1_5 hc_X12_is_0 rfl) (s2_d (u2_d (u1_6 hc_X12_is_0 rfl) (u1_7 hc_X12_is_0 rfl) rfl) rfl) rfl
theorem dX12_is_8 : decode cX12_is 8 = .ok (.iload_n 2, 1) := o_28 (u1_8 hc_X12_is_0 rfl) rfl
theorem dX12_is_9 : decode cX12_is 9 = .ok (.i2l, 1) := o_133 (u1_9 hc_X12_is_0 rfl) rfl
theorem dX12_is_10 : decode cX12_is 10 = .ok (.lconst 0, 1) := o_9 (u1_10 hc_X12_is_0 rfl) rfl
theorem dX12_is_11 : decode cX12_is 11 = .ok (.aload_n 0, 1) := o_42 (u1_11 hc_X12_is_0 rfl) rfl
theorem dX12_is_12 : decode cX12_is 12 = .ok (.getfield 151, 3) := o_180 (u1_12 hc_X12_is_0 rfl) (u2_d (u1_13 hc_X12_is_0 rfl) (u1_14 hc_X12_is_0 rfl) rfl) rfl
theorem dX12_is_15 : decode cX12_is 15 = .ok (.iconst 1, 1) := o_4 (u1_15 hc_X12_is_0 rfl) rfl
theorem hc_X12_is_16 : ((bL cX12_is).drop 16).take 18 = [100, 133, 184, 0, 166, 154, 0, 7, 2, 167, 0, 17, 42, 27, 28, 182, 0, 184] := by decide +kernel
theorem dX12_is_16 : decode cX12_is 16 = .ok (.isub, 1) := o_100 (u1_0 hc_X12_is_16 rfl) rfl
theorem dX12_is_17 : decode cX12_is 17 = .ok (.i2l, 1) := o_133 (u1_1 hc_X12_is_16 rfl) rfl
theorem dX12_is_18 : decode cX12_is 18 = .ok (.invokestatic 166, 3) := o_184 (u1_2 hc_X12_is_16 rfl) (u2_d (u1_3 hc_X12_is_16 rfl) (u1_4 hc_X12_is_16 rfl) rfl) rfl
theorem dX12_is_21 : decode cX12_is 21 = .ok (.ifCond .ne 7, 3) := o_154 (u1_5 hc_X12_is_16 rfl) (s2_d (u2_d (u1_6 hc_X12_is_16 rfl) (u1_7 hc_X12_is_16 rfl) rfl) rfl) rfl
theorem dX12_is_24 : decode cX12_is 24 = .ok (.iconst (-1), 1) := o_2 (u1_8 hc_X12_is_16 rfl) rfl
theorem dX12_is_25 : decode cX12_is 25 = .ok (.goto 17, 3) := o_167 (u1_9 hc_X12_is_16 rfl) (s2_d (u2_d (u1_10 hc_X12_is_16 rfl) (u1_11 hc_X12_is_16 rfl) rfl) rfl) rfl
theorem dX12_is_28 : decode cX12_is 28 = .ok (.aload_n 0, 1) := o_42 (u1_12 hc_X12_is_16 rfl) rfl
theorem dX12_is_29 : decode cX12_is 29 = .ok (.iload_n 1, 1) := o_27 (u1_13 hc_X12_is_16 rfl) rfl
theorem dX12_is_30 : decode cX12_is 30 = .ok (.iload_n 2, 1) := o_28 (u1_14 hc_X12_is_16 rfl) rfl
theorem dX12_is_31 : decode cX12_is 31 = .ok (.invokevirtual 184, 3) := o_182 (u1_15 hc_X12_is_16 rfl) (u2_d (u1_16 hc_X12_is_16 rfl) (u1_17 hc_X12_is_16 rfl) rfl) rfl
theorem hc_X12_is_32 : ((bL cX12_is).drop 32).take 18 = [0, 184, 153, 0, 7, 4, 167, 0, 4, 3, 172] := by decide +kernel
theorem dX12_is_34 : decode cX12_is 34 = .ok (.ifCond .eq 7, 3) := o_153 (u1_2 hc_X12_is_32 rfl) (s2_d (u2_d (u1_3 hc_X12_is_32 rfl) (u1_4 hc_X12_is_32 rfl) rfl) rfl) rfl
theorem dX12_is_37 : decode cX12_is 37 = .ok (.iconst 1, 1) := o_4 (u1_5 hc_X12_is_32 rfl) rfl
theorem dX12_is_38 : decode cX12_is 38 = .ok (.goto 4, 3) := o_167 (u1_6 hc_X12_is_32 rfl) (s2_d (u2_d (u1_7 hc_X12_is_32 rfl) (u1_8 hc_X12_is_32 rfl) rfl) rfl) rfl
theorem dX12_is_41 : decode cX12_is 41 = .ok (.iconst 0, 1) := o_3 (u1_9 hc_X12_is_32 rfl) rfl
theorem dX12_is_42 : decode cX12_is 42 = .ok (.ireturn, 1) := o_172 (u1_10 hc_X12_is_32 rfl) rfl
theorem hc_X12_isMovable_0 : ((bL cX12_isMovable).drop 0).take 18 = [42, 27, 4, 182, 0, 184, 153, 0, 16, 42, 27, 5, 182, 0, 184, 154, 0, 7] := by decide +kernel
theorem dX12_isMovable_0 : decode cX12_isMovable 0 = .ok (.aload_n 0, 1) := o_42 (u1_0 hc_X12_isMovable_0 rfl) rfl
theorem dX12_isMovable_1 : decode cX12_isMovable 1 = .ok (.iload_n 1, 1) := o_27 (u1_1 hc_X12_isMovable_0 rfl) rfl
theorem dX12_isMovable_2 : decode cX12_isMovable 2 = .ok (.iconst 1, 1) := o_4 (u1_2 hc_X12_isMovable_0 rfl) rfl
theorem dX12_isMovable_3 : decode cX12_isMovable 3 = .ok (.invokevirtual 184, 3) := o_182 (u1_3 hc_X12_isMovable_0 rfl) (u2_d (u1_4 hc_X12_isMovable_0 rfl) (u1_5 hc_X12_isMovable_0 rfl) rfl) rfl
theorem dX12_isMovable_6 : decode cX12_isMovable 6 = .ok (.ifCond .eq 16, 3) := o_153 (u1_6 hc_X12_isMovable_0 rfl) (s2_d (u2_d (u1_7 hc_X12_isMovable_0 rfl) (u1_8 hc_X12_isMovable_0 rfl) rfl) rfl) rfl
theorem dX12_isMovable_9 : decode cX12_isMovable 9 = .ok (.aload_n 0, 1) := o_42 (u1_9 hc_X12_isMovable_0 rfl) rfl
theorem dX12_isMovable_10 : decode cX12_isMovable 10 = .ok (.iload_n 1, 1) := o_27 (u1_10 hc_X12_isMovable_0 rfl) rfl
theorem dX12_isMovable_11 : decode cX12_isMovable 11 = .ok (.iconst 2, 1) := o_5 (u1_11 hc_X12_isMovable_0 rfl) rfl
theorem dX12_isMovable_12 : decode cX12_isMovable 12 = .ok (.invokevirtual 184, 3) := o_182 (u1_12 hc_X12_isMovable_0 rfl) (u2_d (u1_13 hc_X12_isMovable_0 rfl) (u1_14 hc_X12_isMovable_0 rfl) rfl) rfl
theorem dX12_isMovable_15 : decode cX12_isMovable 15 = .ok (.ifCond .ne 7, 3) := o_154 (u1_15 hc_X12_isMovable_0 rfl) (s2_d (u2_d (u1_16 hc_X12_isMovable_0 rfl) (u1_17 hc_X12_isMovable_0 rfl) rfl) rfl) rfl
theorem hc_X12_isMovable_16 : ((bL cX12_isMovable).drop 16).take 18 = [0, 7, 4, 167, 0, 4, 3, 172] := by decide +kernel
theorem dX12_isMovable_18 : decode cX12_isMovable 18 = .ok (.iconst 1, 1) := o_4 (u1_2 hc_X12_isMovable_16 rfl) rfl
theorem dX12_isMovable_19 : decode cX12_isMovable 19 = .ok (.goto 4, 3) := o_167 (u1_3 hc_X12_isMovable_16 rfl) (s2_d (u2_d (u1_4 hc_X12_isMovable_16 rfl) (u1_5 hc_X12_isMovable_16 rfl) rfl) rfl) rfl
theorem dX12_isMovable_22 : decode cX12_isMovable 22 = .ok (.iconst 0, 1) := o_3 (u1_6 hc_X12_isMovable_16 rfl) rfl
theorem dX12_isMovable_23 : decode cX12_isMovable 23 = .ok (.ireturn, 1) := o_172 (u1_7 hc_X12_isMovable_16 rfl) rfl
theorem hc_X12_isGoods_0 : ((bL cX12_isGoods).drop 0).take 18 = [42, 27, 182, 0, 188, 153, 0, 16, 42, 27, 8, 182, 0, 184, 154, 0, 7, 4] := by decide +kernel
theorem dX12_isGoods_0 : decode cX12_isGoods 0 = .ok (.aload_n 0, 1) := o_42 (u1_0 hc_X12_isGoods_0 rfl) rfl
theorem dX12_isGoods_1 : decode cX12_isGoods 1 = .ok (.iload_n 1, 1) := o_27 (u1_1 hc_X12_isGoods_0 rfl) rfl
theorem dX12_isGoods_2 : decode cX12_isGoods 2 = .ok (.invokevirtual 188, 3) := o_182 (u1_2 hc_X12_isGoods_0 rfl) (u2_d (u1_3 hc_X12_isGoods_0 rfl) (u1_4 hc_X12_isGoods_0 rfl) rfl) rfl
theorem dX12_isGoods_5 : decode cX12_isGoods 5 = .ok (.ifCond .eq 16, 3) := o_153 (u1_5 hc_X12_isGoods_0 rfl) (s2_d (u2_d (u1_6 hc_X12_isGoods_0 rfl) (u1_7 hc_X12_isGoods_0 rfl) rfl) rfl) rfl
theorem dX12_isGoods_8 : decode cX12_isGoods 8 = .ok (.aload_n 0, 1) := o_42 (u1_8 hc_X12_isGoods_0 rfl) rfl
theorem dX12_isGoods_9 : decode cX12_isGoods 9 = .ok (.iload_n 1, 1) := o_27 (u1_9 hc_X12_isGoods_0 rfl) rfl
theorem dX12_isGoods_10 : decode cX12_isGoods 10 = .ok (.iconst 5, 1) := o_8 (u1_10 hc_X12_isGoods_0 rfl) rfl
theorem dX12_isGoods_11 : decode cX12_isGoods 11 = .ok (.invokevirtual 184, 3) := o_182 (u1_11 hc_X12_isGoods_0 rfl) (u2_d (u1_12 hc_X12_isGoods_0 rfl) (u1_13 hc_X12_isGoods_0 rfl) rfl) rfl
theorem dX12_isGoods_14 : decode cX12_isGoods 14 = .ok (.ifCond .ne 7, 3) := o_154 (u1_14 hc_X12_isGoods_0 rfl) (s2_d (u2_d (u1_15 hc_X12_isGoods_0 rfl) (u1_16 hc_X12_isGoods_0 rfl) rfl) rfl) rfl
theorem hc_X12_isGoods_16 : ((bL cX12_isGoods).drop 16).take 18 = [7, 4, 167, 0, 4, 3, 172] := by decide +kernel
theorem dX12_isGoods_17 : decode cX12_isGoods 17 = .ok (.iconst 1, 1) := o_4 (u1_1 hc_X12_isGoods_16 rfl) rfl
theorem dX12_isGoods_18 : decode cX12_isGoods 18 = .ok (.goto 4, 3) := o_167 (u1_2 hc_X12_isGoods_16 rfl) (s2_d (u2_d (u1_3 hc_X12_isGoods_16 rfl) (u1_4 hc_X12_isGoods_16 rfl) rfl) rfl) rfl
theorem dX12_isGoods_21 : decode cX12_isGoods 21 = .ok (.iconst 0, 1) := o_3 (u1_5 hc_X12_isGoods_16 rfl) rfl
theorem dX12_isGoods_22 : decode cX12_isGoods 22 = .ok (.ireturn, 1) := o_172 (u1_6 hc_X12_isGoods_16 rfl) rfl
theorem hc_X12_isShutter_0 : ((bL cX12_isShutter).drop 0).take 18 = [42, 27, 5, 182, 0, 184, 154, 0, 12, 42, 27, 6, 182, 0, 184, 153, 0, 7] := by decide +kernel
theorem dX12_isShutter_0 : decode cX12_isShutter 0 = .ok (.aload_n 0, 1) := o_42 (u1_0 hc_X12_isShutter_0 rfl) rfl
theorem dX12_isShutter_1 : decode cX12_isShutter 1 = .ok (.iload_n 1, 1) := o_27 (u1_1 hc_X12_isShutter_0 rfl) rfl
theorem dX12_isShutter_2 : decode cX12_isShutter 2 = .ok (.iconst 2, 1) := o_5 (u1_2 hc_X12_isShutter_0 rfl) rfl
theorem dX12_isShutter_3 : decode cX12_isShutter 3 = .ok (.invokevirtual 184, 3) := o_182 (u1_3 hc_X12_isShutter_0 rfl) (u2_d (u1_4 hc_X12_isShutter_0 rfl) (u1_5 hc_X12_isShutter_0 rfl) rfl) rfl
theorem dX12_isShutter_6 : decode cX12_isShutter 6 = .ok (.ifCond .ne 12, 3) := o_154 (u1_6 hc_X12_isShutter_0 rfl) (s2_d (u2_d (u1_7 hc_X12_isShutter_0 rfl) (u1_8 hc_X12_isShutter_0 rfl) rfl) rfl) rfl
theorem dX12_isShutter_9 : decode cX12_isShutter 9 = .ok (.aload_n 0, 1) := o_42 (u1_9 hc_X12_isShutter_0 rfl) rfl
theorem dX12_isShutter_10 : decode cX12_isShutter 10 = .ok (.iload_n 1, 1) := o_27 (u1_10 hc_X12_isShutter_0 rfl) rfl
theorem dX12_isShutter_11 : decode cX12_isShutter 11 = .ok (.iconst 3, 1) := o_6 (u1_11 hc_X12_isShutter_0 rfl) rfl
theorem dX12_isShutter_12 : decode cX12_isShutter 12 = .ok (.invokevirtual 184, 3) := o_182 (u1_12 hc_X12_isShutter_0 rfl) (u2_d (u1_13 hc_X12_isShutter_0 rfl) (u1_14 hc_X12_isShutter_0 rfl) rfl) rfl
theorem dX12_isShutter_15 : decode cX12_isShutter 15 = .ok (.ifCond .eq 7, 3) := o_153 (u1_15 hc_X12_isShutter_0 rfl) (s2_d (u2_d (u1_16 hc_X12_isShutter_0 rfl) (u1_17 hc_X12_isShutter_0 rfl) rfl) rfl) rfl
theorem hc_X12_isShutter_16 : ((bL cX12_isShutter).drop 16).take 18 = [0, 7, 4, 167, 0, 4, 3, 172] := by decide +kernel
theorem dX12_isShutter_18 : decode cX12_isShutter 18 = .ok (.iconst 1, 1) := o_4 (u1_2 hc_X12_isShutter_16 rfl) rfl
theorem dX12_isShutter_19 : decode cX12_isShutter 19 = .ok (.goto 4, 3) := o_167 (u1_3 hc_X12_isShutter_16 rfl) (s2_d (u2_d (u1_4 hc_X12_isShutter_16 rfl) (u1_5 hc_X12_isShutter_16 rfl) rfl) rfl) rfl
theorem dX12_isShutter_22 : decode cX12_isShutter 22 = .ok (.iconst 0, 1) := o_3 (u1_6 hc_X12_isShutter_16 rfl) rfl
theorem dX12_isShutter_23 : decode cX12_isShutter 23 = .ok (.ireturn, 1) := o_172 (u1_7 hc_X12_isShutter_16 rfl) rfl
theorem hc_X12_mayHave_0 : ((bL cX12_mayHave).drop 0).take 18 = [28, 170, 0, 0, 0, 0, 0, 55, 0, 0, 0, 0, 0, 0, 0, 4, 0, 0] := by decide +kernel
theorem dX12_mayHave_0 : decode cX12_mayHave 0 = .ok (.iload_n 2, 1) := o_28 (u1_0 hc_X12_mayHave_0 rfl) rfl
theorem dX12_mayHave_1 : decode cX12_mayHave 1 = .ok (.tableswitch 55 0 4 #[35, 35, 41, 43, 49], 35) := by decide +kernel
theorem hc_X12_mayHave_32 : ((bL cX12_mayHave).drop 32).take 18 = [0, 0, 0, 49, 42, 27, 182, 0, 191, 172, 4, 172, 42, 27, 182, 0, 188, 172] := by decide +kernel
theorem dX12_mayHave_36 : decode cX12_mayHave 36 = .ok (.aload_n 0, 1) := o_42 (u1_4 hc_X12_mayHave_32 rfl) rfl
theorem dX12_mayHave_37 : decode cX12_mayHave 37 = .ok (.iload_n 1, 1) := o_27 (u1_5 hc_X12_mayHave_32 rfl) rfl
theorem dX12_mayHave_38 : decode cX12_mayHave 38 = .ok (.invokevirtual 191, 3) := o_182 (u1_6 hc_X12_mayHave_32 rfl) (u2_d (u1_7 hc_X12_mayHave_32 rfl) (u1_8 hc_X12_mayHave_32 rfl) rfl) rfl
theorem dX12_mayHave_41 : decode cX12_mayHave 41 = .ok (.ireturn, 1) := o_172 (u1_9 hc_X12_mayHave_32 rfl) rfl
theorem dX12_mayHave_42 : decode cX12_mayHave 42 = .ok (.iconst 1, 1) := o_4 (u1_10 hc_X12_mayHave_32 rfl) rfl
theorem dX12_mayHave_43 : decode cX12_mayHave 43 = .ok (.ireturn, 1) := o_172 (u1_11 hc_X12_mayHave_32 rfl) rfl
theorem dX12_mayHave_44 : decode cX12_mayHave 44 = .ok (.aload_n 0, 1) := o_42 (u1_12 hc_X12_mayHave_32 rfl) rfl
theorem dX12_mayHave_45 : decode cX12_mayHave 45 = .ok (.iload_n 1, 1) := o_27 (u1_13 hc_X12_mayHave_32 rfl) rfl
theorem dX12_mayHave_46 : decode cX12_mayHave 46 = .ok (.invokevirtual 188, 3) := o_182 (u1_14 hc_X12_mayHave_32 rfl) (u2_d (u1_15 hc_X12_mayHave_32 rfl) (u1_16 hc_X12_mayHave_32 rfl) rfl) rfl
theorem hc_X12_mayHave_48 : ((bL cX12_mayHave).drop 48).take 18 = [188, 172, 42, 27, 182, 0, 194, 172, 42, 27, 6, 182, 0, 184, 172] := by decide +kernel
theorem dX12_mayHave_49 : decode cX12_mayHave 49 = .ok (.ireturn, 1) := o_172 (u1_1 hc_X12_mayHave_48 rfl) rfl
theorem dX12_mayHave_50 : decode cX12_mayHave 50 = .ok (.aload_n 0, 1) := o_42 (u1_2 hc_X12_mayHave_48 rfl) rfl
theorem dX12_mayHave_51 : decode cX12_mayHave 51 = .ok (.iload_n 1, 1) := o_27 (u1_3 hc_X12_mayHave_48 rfl) rfl
theorem dX12_mayHave_52 : decode cX12_mayHave 52 = .ok (.invokevirtual 194, 3) := o_182 (u1_4 hc_X12_mayHave_48 rfl) (u2_d (u1_5 hc_X12_mayHave_48 rfl) (u1_6 hc_X12_mayHave_48 rfl) rfl) rfl
theorem dX12_mayHave_55 : decode cX12_mayHave 55 = .ok (.ireturn, 1) := o_172 (u1_7 hc_X12_mayHave_48 rfl) rfl
theorem dX12_mayHave_56 : decode cX12_mayHave 56 = .ok (.aload_n 0, 1) := o_42 (u1_8 hc_X12_mayHave_48 rfl) rfl
theorem dX12_mayHave_57 : decode cX12_mayHave 57 = .ok (.iload_n 1, 1) := o_27 (u1_9 hc_X12_mayHave_48 rfl) rfl
theorem dX12_mayHave_58 : decode cX12_mayHave 58 = .ok (.iconst 3, 1) := o_6 (u1_10 hc_X12_mayHave_48 rfl) rfl
theorem dX12_mayHave_59 : decode cX12_mayHave 59 = .ok (.invokevirtual 184, 3) := o_182 (u1_11 hc_X12_mayHave_48 rfl) (u2_d (u1_12 hc_X12_mayHave_48 rfl) (u1_13 hc_X12_mayHave_48 rfl) rfl) rfl
theorem dX12_mayHave_62 : decode cX12_mayHave 62 = .ok (.ireturn, 1) := o_172 (u1_14 hc_X12_mayHave_48 rfl) rfl
theorem hc_X12_areNumbers_0 : ((bL cX12_areNumbers).drop 0).take 18 = [27, 16, 6, 160, 0, 40, 42, 28, 182, 0, 180, 153, 0, 30, 29, 133, 9, 20] := by decide +kernel
theorem dX12_areNumbers_0 : decode cX12_areNumbers 0 = .ok (.iload_n 1, 1) := o_27 (u1_0 hc_X12_areNumbers_0 rfl) rfl
theorem dX12_areNumbers_1 : decode cX12_areNumbers 1 = .ok (.bipush 6, 2) := o_16 (u1_1 hc_X12_areNumbers_0 rfl) (s1_d (u1_2 hc_X12_areNumbers_0 rfl) rfl) rfl
theorem dX12_areNumbers_3 : decode cX12_areNumbers 3 = .ok (.if_icmp .ne 40, 3) := o_160 (u1_3 hc_X12_areNumbers_0 rfl) (s2_d (u2_d (u1_4 hc_X12_areNumbers_0 rfl) (u1_5 hc_X12_areNumbers_0 rfl) rfl) rfl) rfl
theorem dX12_areNumbers_6 : decode cX12_areNumbers 6 = .ok (.aload_n 0, 1) := o_42 (u1_6 hc_X12_areNumbers_0 rfl) rfl
theorem dX12_areNumbers_7 : decode cX12_areNumbers 7 = .ok (.iload_n 2, 1) := o_28 (u1_7 hc_X12_areNumbers_0 rfl) rfl
theorem dX12_areNumbers_8 : decode cX12_areNumbers 8 = .ok (.invokevirtual 180, 3) := o_182 (u1_8 hc_X12_areNumbers_0 rfl) (u2_d (u1_9 hc_X12_areNumbers_0 rfl) (u1_10 hc_X12_areNumbers_0 rfl) rfl) rfl
theorem dX12_areNumbers_11 : decode cX12_areNumbers 11 = .ok (.ifCond .eq 30, 3) := o_153 (u1_11 hc_X12_areNumbers_0 rfl) (s2_d (u2_d (u1_12 hc_X12_areNumbers_0 rfl) (u1_13 hc_X12_areNumbers_0 rfl) rfl) rfl) rfl
theorem dX12_areNumbers_14 : decode cX12_areNumbers 14 = .ok (.iload_n 3, 1) := o_29 (u1_14 hc_X12_areNumbers_0 rfl) rfl
theorem dX12_areNumbers_15 : decode cX12_areNumbers 15 = .ok (.i2l, 1) := o_133 (u1_15 hc_X12_areNumbers_0 rfl) rfl
theorem hc_X12_areNumbers_16 : ((bL cX12_areNumbers).drop 16).take 18 = [9, 20, 0, 170, 184, 0, 166, 153, 0, 18, 21, 4, 133, 9, 10, 184, 0, 166] := by decide +kernel
theorem dX12_areNumbers_16 : decode cX12_areNumbers 16 = .ok (.lconst 0, 1) := o_9 (u1_0 hc_X12_areNumbers_16 rfl) rfl
theorem dX12_areNumbers_17 : decode cX12_areNumbers 17 = .ok (.ldc2_w 170, 3) := o_20 (u1_1 hc_X12_areNumbers_16 rfl) (u2_d (u1_2 hc_X12_areNumbers_16 rfl) (u1_3 hc_X12_areNumbers_16 rfl) rfl) rfl
theorem dX12_areNumbers_20 : decode cX12_areNumbers 20 = .ok (.invokestatic 166, 3) := o_184 (u1_4 hc_X12_areNumbers_16 rfl) (u2_d (u1_5 hc_X12_areNumbers_16 rfl) (u1_6 hc_X12_areNumbers_16 rfl) rfl) rfl
theorem dX12_areNumbers_23 : decode cX12_areNumbers 23 = .ok (.ifCond .eq 18, 3) := o_153 (u1_7 hc_X12_areNumbers_16 rfl) (s2_d (u2_d (u1_8 hc_X12_areNumbers_16 rfl) (u1_9 hc_X12_areNumbers_16 rfl) rfl) rfl) rfl
theorem dX12_areNumbers_26 : decode cX12_areNumbers 26 = .ok (.iload 4, 2) := o_21 (u1_10 hc_X12_areNumbers_16 rfl) (u1_11 hc_X12_areNumbers_16 rfl) rfl
theorem dX12_areNumbers_28 : decode cX12_areNumbers 28 = .ok (.i2l, 1) := o_133 (u1_12 hc_X12_areNumbers_16 rfl) rfl
theorem dX12_areNumbers_29 : decode cX12_areNumbers 29 = .ok (.lconst 0, 1) := o_9 (u1_13 hc_X12_areNumbers_16 rfl) rfl
theorem dX12_areNumbers_30 : decode cX12_areNumbers 30 = .ok (.lconst 1, 1) := o_10 (u1_14 hc_X12_areNumbers_16 rfl) rfl
theorem dX12_areNumbers_31 : decode cX12_areNumbers 31 = .ok (.invokestatic 166, 3) := o_184 (u1_15 hc_X12_areNumbers_16 rfl) (u2_d (u1_16 hc_X12_areNumbers_16 rfl) (u1_17 hc_X12_areNumbers_16 rfl) rfl) rfl
theorem hc_X12_areNumbers_32 : ((bL cX12_areNumbers).drop 32).take 18 = [0, 166, 153, 0, 7, 4, 167, 0, 4, 3, 172, 42, 28, 182, 0, 180, 153, 0] := by decide +kernel
theorem dX12_areNumbers_34 : decode cX12_areNumbers 34 = .ok (.ifCond .eq 7, 3) := o_153 (u1_2 hc_X12_areNumbers_32 rfl) (s2_d (u2_d (u1_3 hc_X12_areNumbers_32 rfl) (u1_4 hc_X12_areNumbers_32 rfl) rfl) rfl) rfl
theorem dX12_areNumbers_37 : decode cX12_areNumbers 37 = .ok (.iconst 1, 1) := o_4 (u1_5 hc_X12_areNumbers_32 rfl) rfl
theorem dX12_areNumbers_38 : decode cX12_areNumbers 38 = .ok (.goto 4, 3) := o_167 (u1_6 hc_X12_areNumbers_32 rfl) (s2_d (u2_d (u1_7 hc_X12_areNumbers_32 rfl) (u1_8 hc_X12_areNumbers_32 rfl) rfl) rfl) rfl
theorem dX12_areNumbers_41 : decode cX12_areNumbers 41 = .ok (.iconst 0, 1) := o_3 (u1_9 hc_X12_areNumbers_32 rfl) rfl
theorem dX12_areNumbers_42 : decode cX12_areNumbers 42 = .ok (.ireturn, 1) := o_172 (u1_10 hc_X12_areNumbers_32 rfl) rfl
theorem dX12_areNumbers_43 : decode cX12_areNumbers 43 = .ok (.aload_n 0, 1) := o_42 (u1_11 hc_X12_areNumbers_32 rfl) rfl
theorem dX12_areNumbers_44 : decode cX12_areNumbers 44 = .ok (.iload_n 2, 1) := o_28 (u1_12 hc_X12_areNumbers_32 rfl) rfl
theorem dX12_areNumbers_45 : decode cX12_areNumbers 45 = .ok (.invokevirtual 180, 3) := o_182 (u1_13 hc_X12_areNumbers_32 rfl) (u2_d (u1_14 hc_X12_areNumbers_32 rfl) (u1_15 hc_X12_areNumbers_32 rfl) rfl) rfl
theorem hc_X12_areNumbers_48 : ((bL cX12_areNumbers).drop 48).take 18 = [153, 0, 33, 42, 29, 182, 0, 180, 153, 0, 25, 27, 8, 160, 0, 16, 21, 4] := by decide +kernel
theorem dX12_areNumbers_48 : decode cX12_areNumbers 48 = .ok (.ifCond .eq 33, 3) := o_153 (u1_0 hc_X12_areNumbers_48 rfl) (s2_d (u2_d (u1_1 hc_X12_areNumbers_48 rfl) (u1_2 hc_X12_areNumbers_48 rfl) rfl) rfl) rfl
theorem dX12_areNumbers_51 : decode cX12_areNumbers 51 = .ok (.aload_n 0, 1) := o_42 (u1_3 hc_X12_areNumbers_48 rfl) rfl
theorem dX12_areNumbers_52 : decode cX12_areNumbers 52 = .ok (.iload_n 3, 1) := o_29 (u1_4 hc_X12_areNumbers_48 rfl) rfl
theorem dX12_areNumbers_53 : decode cX12_areNumbers 53 = .ok (.invokevirtual 180, 3) := o_182 (u1_5 hc_X12_areNumbers_48 rfl) (u2_d (u1_6 hc_X12_areNumbers_48 rfl) (u1_7 hc_X12_areNumbers_48 rfl) rfl) rfl
theorem dX12_areNumbers_56 : decode cX12_areNumbers 56 = .ok (.ifCond .eq 25, 3) := o_153 (u1_8 hc_X12_areNumbers_48 rfl) (s2_d (u2_d (u1_9 hc_X12_areNumbers_48 rfl) (u1_10 hc_X12_areNumbers_48 rfl) rfl) rfl) rfl
theorem dX12_areNumbers_59 : decode cX12_areNumbers 59 = .ok (.iload_n 1, 1) := o_27 (u1_11 hc_X12_areNumbers_48 rfl) rfl
theorem dX12_areNumbers_60 : decode cX12_areNumbers 60 = .ok (.iconst 5, 1) := o_8 (u1_12 hc_X12_areNumbers_48 rfl) rfl
theorem dX12_areNumbers_61 : decode cX12_areNumbers 61 = .ok (.if_icmp .ne 16, 3) := o_160 (u1_13 hc_X12_areNumbers_48 rfl) (s2_d (u2_d (u1_14 hc_X12_areNumbers_48 rfl) (u1_15 hc_X12_areNumbers_48 rfl) rfl) rfl) rfl
theorem hc_X12_areNumbers_64 : ((bL cX12_areNumbers).drop 64).take 18 = [21, 4, 133, 9, 20, 0, 197, 184, 0, 166, 153, 0, 7, 4, 167, 0, 4, 3] := by decide +kernel
theorem dX12_areNumbers_64 : decode cX12_areNumbers 64 = .ok (.iload 4, 2) := o_21 (u1_0 hc_X12_areNumbers_64 rfl) (u1_1 hc_X12_areNumbers_64 rfl) rfl
theorem dX12_areNumbers_66 : decode cX12_areNumbers 66 = .ok (.i2l, 1) := o_133 (u1_2 hc_X12_areNumbers_64 rfl) rfl
theorem dX12_areNumbers_67 : decode cX12_areNumbers 67 = .ok (.lconst 0, 1) := o_9 (u1_3 hc_X12_areNumbers_64 rfl) rfl
theorem dX12_areNumbers_68 : decode cX12_areNumbers 68 = .ok (.ldc2_w 197, 3) := o_20 (u1_4 hc_X12_areNumbers_64 rfl) (u2_d (u1_5 hc_X12_areNumbers_64 rfl) (u1_6 hc_X12_areNumbers_64 rfl) rfl) rfl
theorem dX12_areNumbers_71 : decode cX12_areNumbers 71 = .ok (.invokestatic 166, 3) := o_184 (u1_7 hc_X12_areNumbers_64 rfl) (u2_d (u1_8 hc_X12_areNumbers_64 rfl) (u1_9 hc_X12_areNumbers_64 rfl) rfl) rfl
theorem dX12_areNumbers_74 : decode cX12_areNumbers 74 = .ok (.ifCond .eq 7, 3) := o_153 (u1_10 hc_X12_areNumbers_64 rfl) (s2_d (u2_d (u1_11 hc_X12_areNumbers_64 rfl) (u1_12 hc_X12_areNumbers_64 rfl) rfl) rfl) rfl
theorem dX12_areNumbers_77 : decode cX12_areNumbers 77 = .ok (.iconst 1, 1) := o_4 (u1_13 hc_X12_areNumbers_64 rfl) rfl
theorem dX12_areNumbers_78 : decode cX12_areNumbers 78 = .ok (.goto 4, 3) := o_167 (u1_14 hc_X12_areNumbers_64 rfl) (s2_d (u2_d (u1_15 hc_X12_areNumbers_64 rfl) (u1_16 hc_X12_areNumbers_64 rfl) rfl) rfl) rfl
theorem hc_X12_areNumbers_80 : ((bL cX12_areNumbers).drop 80).take 18 = [4, 3, 172] := by decide +kernel
theorem dX12_areNumbers_81 : decode cX12_areNumbers 81 = .ok (.iconst 0, 1) := o_3 (u1_1 hc_X12_areNumbers_80 rfl) rfl
theorem dX12_areNumbers_82 : decode cX12_areNumbers 82 = .ok (.ireturn, 1) := o_172 (u1_2 hc_X12_areNumbers_80 rfl) rfl
theorem hc_X12_fitsLeft_0 : ((bL cX12_fitsLeft).drop 0).take 18 = [27, 170, 0, 0, 0, 0, 0, 63, 0, 0, 0, 0, 0, 0, 0, 6, 0, 0] := by decide +kernel
theorem dX12_fitsLeft_0 : decode cX12_fitsLeft 0 = .ok (.iload_n 1, 1) := o_27 (u1_0 hc_X12_fitsLeft_0 rfl) rfl
theorem dX12_fitsLeft_1 : decode cX12_fitsLeft 1 = .ok (.tableswitch 63 0 6 #[43, 43, 63, 63, 63, 49, 56], 43) := by decide +kernel
theorem hc_X12_fitsLeft_32 : ((bL cX12_fitsLeft).drop 32).take 18 = [0, 0, 0, 63, 0, 0, 0, 49, 0, 0, 0, 56, 42, 28, 182, 0, 188, 172] := by decide +kernel
theorem dX12_fitsLeft_44 : decode cX12_fitsLeft 44 = .ok (.aload_n 0, 1) := o_42 (u1_12 hc_X12_fitsLeft_32 rfl) rfl
theorem dX12_fitsLeft_45 : decode cX12_fitsLeft 45 = .ok (.iload_n 2, 1) := o_28 (u1_13 hc_X12_fitsLeft_32 rfl) rfl
theorem dX12_fitsLeft_46 : decode cX12_fitsLeft 46 = .ok (.invokevirtual 188, 3) := o_182 (u1_14 hc_X12_fitsLeft_32 rfl) (u2_d (u1_15 hc_X12_fitsLeft_32 rfl) (u1_16 hc_X12_fitsLeft_32 rfl) rfl) rfl
theorem hc_X12_fitsLeft_48 : ((bL cX12_fitsLeft).drop 48).take 18 = [188, 172, 42, 28, 3, 182, 0, 184, 172, 42, 28, 29, 182, 0, 199, 172, 42, 28] := by decide +kernel
theorem dX12_fitsLeft_49 : decode cX12_fitsLeft 49 = .ok (.ireturn, 1) := o_172 (u1_1 hc_X12_fitsLeft_48 rfl) rfl
theorem dX12_fitsLeft_50 : decode cX12_fitsLeft 50 = .ok (.aload_n 0, 1) := o_42 (u1_2 hc_X12_fitsLeft_48 rfl) rfl
theorem dX12_fitsLeft_51 : decode cX12_fitsLeft 51 = .ok (.iload_n 2, 1) := o_28 (u1_3 hc_X12_fitsLeft_48 rfl) rfl
theorem dX12_fitsLeft_52 : decode cX12_fitsLeft 52 = .ok (.iconst 0, 1) := o_3 (u1_4 hc_X12_fitsLeft_48 rfl) rfl
theorem dX12_fitsLeft_53 : decode cX12_fitsLeft 53 = .ok (.invokevirtual 184, 3) := o_182 (u1_5 hc_X12_fitsLeft_48 rfl) (u2_d (u1_6 hc_X12_fitsLeft_48 rfl) (u1_7 hc_X12_fitsLeft_48 rfl) rfl) rfl
theorem dX12_fitsLeft_56 : decode cX12_fitsLeft 56 = .ok (.ireturn, 1) := o_172 (u1_8 hc_X12_fitsLeft_48 rfl) rfl
theorem dX12_fitsLeft_57 : decode cX12_fitsLeft 57 = .ok (.aload_n 0, 1) := o_42 (u1_9 hc_X12_fitsLeft_48 rfl) rfl
theorem dX12_fitsLeft_58 : decode cX12_fitsLeft 58 = .ok (.iload_n 2, 1) := o_28 (u1_10 hc_X12_fitsLeft_48 rfl) rfl
theorem dX12_fitsLeft_59 : decode cX12_fitsLeft 59 = .ok (.iload_n 3, 1) := o_29 (u1_11 hc_X12_fitsLeft_48 rfl) rfl
theorem dX12_fitsLeft_60 : decode cX12_fitsLeft 60 = .ok (.invokevirtual 199, 3) := o_182 (u1_12 hc_X12_fitsLeft_48 rfl) (u2_d (u1_13 hc_X12_fitsLeft_48 rfl) (u1_14 hc_X12_fitsLeft_48 rfl) rfl) rfl
theorem dX12_fitsLeft_63 : decode cX12_fitsLeft 63 = .ok (.ireturn, 1) := o_172 (u1_15 hc_X12_fitsLeft_48 rfl) rfl
theorem hc_X12_fitsLeft_64 : ((bL cX12_fitsLeft).drop 64).take 18 = [42, 28, 182, 0, 194, 172] := by decide +kernel
theorem dX12_fitsLeft_64 : decode cX12_fitsLeft 64 = .ok (.aload_n 0, 1) := o_42 (u1_0 hc_X12_fitsLeft_64 rfl) rfl
theorem dX12_fitsLeft_65 : decode cX12_fitsLeft 65 = .ok (.iload_n 2, 1) := o_28 (u1_1 hc_X12_fitsLeft_64 rfl) rfl
theorem dX12_fitsLeft_66 : decode cX12_fitsLeft 66 = .ok (.invokevirtual 194, 3) := o_182 (u1_2 hc_X12_fitsLeft_64 rfl) (u2_d (u1_3 hc_X12_fitsLeft_64 rfl) (u1_4 hc_X12_fitsLeft_64 rfl) rfl) rfl
theorem dX12_fitsLeft_69 : decode cX12_fitsLeft 69 = .ok (.ireturn, 1) := o_172 (u1_5 hc_X12_fitsLeft_64 rfl) rfl
theorem hc_X12_fitsRight_0 : ((bL cX12_fitsRight).drop 0).take 18 = [27, 170, 0, 0, 0, 0, 0, 122, 0, 0, 0, 0, 0, 0, 0, 7, 0, 0] := by decide +kernel
theorem dX12_fitsRight_0 : decode cX12_fitsRight 0 = .ok (.iload_n 1, 1) := o_27 (u1_0 hc_X12_fitsRight_0 rfl) rfl
theorem dX12_fitsRight_1 : decode cX12_fitsRight 1 = .ok (.tableswitch 122 0 7 #[47, 71, 78, 78, 85, 92, 122, 116], 47) := by decide +kernel
theorem hc_X12_fitsRight_48 : ((bL cX12_fitsRight).drop 48).take 18 = [42, 28, 3, 182, 0, 184, 154, 0, 12, 42, 28, 6, 182, 0, 184, 153, 0, 7] := by decide +kernel
theorem dX12_fitsRight_48 : decode cX12_fitsRight 48 = .ok (.aload_n 0, 1) := o_42 (u1_0 hc_X12_fitsRight_48 rfl) rfl
theorem dX12_fitsRight_49 : decode cX12_fitsRight 49 = .ok (.iload_n 2, 1) := o_28 (u1_1 hc_X12_fitsRight_48 rfl) rfl
theorem dX12_fitsRight_50 : decode cX12_fitsRight 50 = .ok (.iconst 0, 1) := o_3 (u1_2 hc_X12_fitsRight_48 rfl) rfl
theorem dX12_fitsRight_51 : decode cX12_fitsRight 51 = .ok (.invokevirtual 184, 3) := o_182 (u1_3 hc_X12_fitsRight_48 rfl) (u2_d (u1_4 hc_X12_fitsRight_48 rfl) (u1_5 hc_X12_fitsRight_48 rfl) rfl) rfl
theorem dX12_fitsRight_54 : decode cX12_fitsRight 54 = .ok (.ifCond .ne 12, 3) := o_154 (u1_6 hc_X12_fitsRight_48 rfl) (s2_d (u2_d (u1_7 hc_X12_fitsRight_48 rfl) (u1_8 hc_X12_fitsRight_48 rfl) rfl) rfl) rfl
theorem dX12_fitsRight_57 : decode cX12_fitsRight 57 = .ok (.aload_n 0, 1) := o_42 (u1_9 hc_X12_fitsRight_48 rfl) rfl
theorem dX12_fitsRight_58 : decode cX12_fitsRight 58 = .ok (.iload_n 2, 1) := o_28 (u1_10 hc_X12_fitsRight_48 rfl) rfl
theorem dX12_fitsRight_59 : decode cX12_fitsRight 59 = .ok (.iconst 3, 1) := o_6 (u1_11 hc_X12_fitsRight_48 rfl) rfl
theorem dX12_fitsRight_60 : decode cX12_fitsRight 60 = .ok (.invokevirtual 184, 3) := o_182 (u1_12 hc_X12_fitsRight_48 rfl) (u2_d (u1_13 hc_X12_fitsRight_48 rfl) (u1_14 hc_X12_fitsRight_48 rfl) rfl) rfl
theorem dX12_fitsRight_63 : decode cX12_fitsRight 63 = .ok (.ifCond .eq 7, 3) := o_153 (u1_15 hc_X12_fitsRight_48 rfl) (s2_d (u2_d (u1_16 hc_X12_fitsRight_48 rfl) (u1_17 hc_X12_fitsRight_48 rfl) rfl) rfl) rfl
theorem hc_X12_fitsRight_64 : ((bL cX12_fitsRight).drop 64).take 18 = [0, 7, 4, 167, 0, 4, 3, 172, 42, 28, 7, 182, 0, 184, 172, 42, 28, 8] := by decide +kernel
theorem dX12_fitsRight_66 : decode cX12_fitsRight 66 = .ok (.iconst 1, 1) := o_4 (u1_2 hc_X12_fitsRight_64 rfl) rfl
theorem dX12_fitsRight_67 : decode cX12_fitsRight 67 = .ok (.goto 4, 3) := o_167 (u1_3 hc_X12_fitsRight_64 rfl) (s2_d (u2_d (u1_4 hc_X12_fitsRight_64 rfl) (u1_5 hc_X12_fitsRight_64 rfl) rfl) rfl) rfl
theorem dX12_fitsRight_70 : decode cX12_fitsRight 70 = .ok (.iconst 0, 1) := o_3 (u1_6 hc_X12_fitsRight_64 rfl) rfl
theorem dX12_fitsRight_71 : decode cX12_fitsRight 71 = .ok (.ireturn, 1) := o_172 (u1_7 hc_X12_fitsRight_64 rfl) rfl
theorem dX12_fitsRight_72 : decode cX12_fitsRight 72 = .ok (.aload_n 0, 1) := o_42 (u1_8 hc_X12_fitsRight_64 rfl) rfl
theorem dX12_fitsRight_73 : decode cX12_fitsRight 73 = .ok (.iload_n 2, 1) := o_28 (u1_9 hc_X12_fitsRight_64 rfl) rfl
theorem dX12_fitsRight_74 : decode cX12_fitsRight 74 = .ok (.iconst 4, 1) := o_7 (u1_10 hc_X12_fitsRight_64 rfl) rfl
theorem dX12_fitsRight_75 : decode cX12_fitsRight 75 = .ok (.invokevirtual 184, 3) := o_182 (u1_11 hc_X12_fitsRight_64 rfl) (u2_d (u1_12 hc_X12_fitsRight_64 rfl) (u1_13 hc_X12_fitsRight_64 rfl) rfl) rfl
theorem dX12_fitsRight_78 : decode cX12_fitsRight 78 = .ok (.ireturn, 1) := o_172 (u1_14 hc_X12_fitsRight_64 rfl) rfl
theorem dX12_fitsRight_79 : decode cX12_fitsRight 79 = .ok (.aload_n 0, 1) := o_42 (u1_15 hc_X12_fitsRight_64 rfl) rfl
theorem hc_X12_fitsRight_80 : ((bL cX12_fitsRight).drop 80).take 18 = [28, 8, 182, 0, 184, 172, 42, 28, 4, 182, 0, 184, 172, 42, 28, 3, 182, 0] := by decide +kernel
theorem dX12_fitsRight_80 : decode cX12_fitsRight 80 = .ok (.iload_n 2, 1) := o_28 (u1_0 hc_X12_fitsRight_80 rfl) rfl
theorem dX12_fitsRight_81 : decode cX12_fitsRight 81 = .ok (.iconst 5, 1) := o_8 (u1_1 hc_X12_fitsRight_80 rfl) rfl
theorem dX12_fitsRight_82 : decode cX12_fitsRight 82 = .ok (.invokevirtual 184, 3) := o_182 (u1_2 hc_X12_fitsRight_80 rfl) (u2_d (u1_3 hc_X12_fitsRight_80 rfl) (u1_4 hc_X12_fitsRight_80 rfl) rfl) rfl
theorem dX12_fitsRight_85 : decode cX12_fitsRight 85 = .ok (.ireturn, 1) := o_172 (u1_5 hc_X12_fitsRight_80 rfl) rfl
theorem dX12_fitsRight_86 : decode cX12_fitsRight 86 = .ok (.aload_n 0, 1) := o_42 (u1_6 hc_X12_fitsRight_80 rfl) rfl
theorem dX12_fitsRight_87 : decode cX12_fitsRight 87 = .ok (.iload_n 2, 1) := o_28 (u1_7 hc_X12_fitsRight_80 rfl) rfl
theorem dX12_fitsRight_88 : decode cX12_fitsRight 88 = .ok (.iconst 1, 1) := o_4 (u1_8 hc_X12_fitsRight_80 rfl) rfl
theorem dX12_fitsRight_89 : decode cX12_fitsRight 89 = .ok (.invokevirtual 184, 3) := o_182 (u1_9 hc_X12_fitsRight_80 rfl) (u2_d (u1_10 hc_X12_fitsRight_80 rfl) (u1_11 hc_X12_fitsRight_80 rfl) rfl) rfl
theorem dX12_fitsRight_92 : decode cX12_fitsRight 92 = .ok (.ireturn, 1) := o_172 (u1_12 hc_X12_fitsRight_80 rfl) rfl
theorem dX12_fitsRight_93 : decode cX12_fitsRight 93 = .ok (.aload_n 0, 1) := o_42 (u1_13 hc_X12_fitsRight_80 rfl) rfl
theorem dX12_fitsRight_94 : decode cX12_fitsRight 94 = .ok (.iload_n 2, 1) := o_28 (u1_14 hc_X12_fitsRight_80 rfl) rfl
theorem dX12_fitsRight_95 : decode cX12_fitsRight 95 = .ok (.iconst 0, 1) := o_3 (u1_15 hc_X12_fitsRight_80 rfl) rfl
theorem hc_X12_fitsRight_96 : ((bL cX12_fitsRight).drop 96).take 18 = [182, 0, 184, 154, 0, 12, 42, 28, 5, 182, 0, 184, 153, 0, 7, 4, 167, 0] := by decide +kernel
theorem dX12_fitsRight_96 : decode cX12_fitsRight 96 = .ok (.invokevirtual 184, 3) := o_182 (u1_0 hc_X12_fitsRight_96 rfl) (u2_d (u1_1 hc_X12_fitsRight_96 rfl) (u1_2 hc_X12_fitsRight_96 rfl) rfl) rfl
theorem dX12_fitsRight_99 : decode cX12_fitsRight 99 = .ok (.ifCond .ne 12, 3) := o_154 (u1_3 hc_X12_fitsRight_96 rfl) (s2_d (u2_d (u1_4 hc_X12_fitsRight_96 rfl) (u1_5 hc_X12_fitsRight_96 rfl) rfl) rfl) rfl
theorem dX12_fitsRight_102 : decode cX12_fitsRight 102 = .ok (.aload_n 0, 1) := o_42 (u1_6 hc_X12_fitsRight_96 rfl) rfl
theorem dX12_fitsRight_103 : decode cX12_fitsRight 103 = .ok (.iload_n 2, 1) := o_28 (u1_7 hc_X12_fitsRight_96 rfl) rfl
theorem dX12_fitsRight_104 : decode cX12_fitsRight 104 = .ok (.iconst 2, 1) := o_5 (u1_8 hc_X12_fitsRight_96 rfl) rfl
theorem dX12_fitsRight_105 : decode cX12_fitsRight 105 = .ok (.invokevirtual 184, 3) := o_182 (u1_9 hc_X12_fitsRight_96 rfl) (u2_d (u1_10 hc_X12_fitsRight_96 rfl) (u1_11 hc_X12_fitsRight_96 rfl) rfl) rfl
theorem dX12_fitsRight_108 : decode cX12_fitsRight 108 = .ok (.ifCond .eq 7, 3) := o_153 (u1_12 hc_X12_fitsRight_96 rfl) (s2_d (u2_d (u1_13 hc_X12_fitsRight_96 rfl) (u1_14 hc_X12_fitsRight_96 rfl) rfl) rfl) rfl
theorem dX12_fitsRight_111 : decode cX12_fitsRight 111 = .ok (.iconst 1, 1) := o_4 (u1_15 hc_X12_fitsRight_96 rfl) rfl
theorem hc_X12_fitsRight_112 : ((bL cX12_fitsRight).drop 112).take 18 = [167, 0, 4, 3, 172, 42, 28, 182, 0, 191, 172, 4, 172] := by decide +kernel
theorem dX12_fitsRight_112 : decode cX12_fitsRight 112 = .ok (.goto 4, 3) := o_167 (u1_0 hc_X12_fitsRight_112 rfl) (s2_d (u2_d (u1_1 hc_X12_fitsRight_112 rfl) (u1_2 hc_X12_fitsRight_112 rfl) rfl) rfl) rfl
theorem dX12_fitsRight_115 : decode cX12_fitsRight 115 = .ok (.iconst 0, 1) := o_3 (u1_3 hc_X12_fitsRight_112 rfl) rfl
theorem dX12_fitsRight_116 : decode cX12_fitsRight 116 = .ok (.ireturn, 1) := o_172 (u1_4 hc_X12_fitsRight_112 rfl) rfl
theorem dX12_fitsRight_117 : decode cX12_fitsRight 117 = .ok (.aload_n 0, 1) := o_42 (u1_5 hc_X12_fitsRight_112 rfl) rfl
theorem dX12_fitsRight_118 : decode cX12_fitsRight 118 = .ok (.iload_n 2, 1) := o_28 (u1_6 hc_X12_fitsRight_112 rfl) rfl
theorem dX12_fitsRight_119 : decode cX12_fitsRight 119 = .ok (.invokevirtual 191, 3) := o_182 (u1_7 hc_X12_fitsRight_112 rfl) (u2_d (u1_8 hc_X12_fitsRight_112 rfl) (u1_9 hc_X12_fitsRight_112 rfl) rfl) rfl
theorem dX12_fitsRight_122 : decode cX12_fitsRight 122 = .ok (.ireturn, 1) := o_172 (u1_10 hc_X12_fitsRight_112 rfl) rfl
theorem dX12_fitsRight_123 : decode cX12_fitsRight 123 = .ok (.iconst 1, 1) := o_4 (u1_11 hc_X12_fitsRight_112 rfl) rfl
theorem dX12_fitsRight_124 : decode cX12_fitsRight 124 = .ok (.ireturn, 1) := o_172 (u1_12 hc_X12_fitsRight_112 rfl) rfl
theorem hc_X12_saidSo_0 : ((bL cX12_saidSo).drop 0).take 18 = [3, 54, 5, 21, 5, 42, 180, 0, 202, 162, 0, 67, 42, 180, 0, 37, 21, 5] := by decide +kernel
theorem dX12_saidSo_0 : decode cX12_saidSo 0 = .ok (.iconst 0, 1) := o_3 (u1_0 hc_X12_saidSo_0 rfl) rfl
theorem dX12_saidSo_1 : decode cX12_saidSo 1 = .ok (.istore 5, 2) := o_54 (u1_1 hc_X12_saidSo_0 rfl) (u1_2 hc_X12_saidSo_0 rfl) rfl
theorem dX12_saidSo_3 : decode cX12_saidSo 3 = .ok (.iload 5, 2) := o_21 (u1_3 hc_X12_saidSo_0 rfl) (u1_4 hc_X12_saidSo_0 rfl) rfl
theorem dX12_saidSo_5 : decode cX12_saidSo 5 = .ok (.aload_n 0, 1) := o_42 (u1_5 hc_X12_saidSo_0 rfl) rfl
theorem dX12_saidSo_6 : decode cX12_saidSo 6 = .ok (.getfield 202, 3) := o_180 (u1_6 hc_X12_saidSo_0 rfl) (u2_d (u1_7 hc_X12_saidSo_0 rfl) (u1_8 hc_X12_saidSo_0 rfl) rfl) rfl
theorem dX12_saidSo_9 : decode cX12_saidSo 9 = .ok (.if_icmp .ge 67, 3) := o_162 (u1_9 hc_X12_saidSo_0 rfl) (s2_d (u2_d (u1_10 hc_X12_saidSo_0 rfl) (u1_11 hc_X12_saidSo_0 rfl) rfl) rfl) rfl
theorem dX12_saidSo_12 : decode cX12_saidSo 12 = .ok (.aload_n 0, 1) := o_42 (u1_12 hc_X12_saidSo_0 rfl) rfl
theorem dX12_saidSo_13 : decode cX12_saidSo 13 = .ok (.getfield 37, 3) := o_180 (u1_13 hc_X12_saidSo_0 rfl) (u2_d (u1_14 hc_X12_saidSo_0 rfl) (u1_15 hc_X12_saidSo_0 rfl) rfl) rfl
theorem hc_X12_saidSo_16 : ((bL cX12_saidSo).drop 16).take 18 = [21, 5, 51, 153, 0, 51, 42, 180, 0, 25, 21, 5, 46, 27, 160, 0, 40, 42] := by decide +kernel
theorem dX12_saidSo_16 : decode cX12_saidSo 16 = .ok (.iload 5, 2) := o_21 (u1_0 hc_X12_saidSo_16 rfl) (u1_1 hc_X12_saidSo_16 rfl) rfl
theorem dX12_saidSo_18 : decode cX12_saidSo 18 = .ok (.baload, 1) := o_51 (u1_2 hc_X12_saidSo_16 rfl) rfl
theorem dX12_saidSo_19 : decode cX12_saidSo 19 = .ok (.ifCond .eq 51, 3) := o_153 (u1_3 hc_X12_saidSo_16 rfl) (s2_d (u2_d (u1_4 hc_X12_saidSo_16 rfl) (u1_5 hc_X12_saidSo_16 rfl) rfl) rfl) rfl
theorem dX12_saidSo_22 : decode cX12_saidSo 22 = .ok (.aload_n 0, 1) := o_42 (u1_6 hc_X12_saidSo_16 rfl) rfl
theorem dX12_saidSo_23 : decode cX12_saidSo 23 = .ok (.getfield 25, 3) := o_180 (u1_7 hc_X12_saidSo_16 rfl) (u2_d (u1_8 hc_X12_saidSo_16 rfl) (u1_9 hc_X12_saidSo_16 rfl) rfl) rfl
theorem dX12_saidSo_26 : decode cX12_saidSo 26 = .ok (.iload 5, 2) := o_21 (u1_10 hc_X12_saidSo_16 rfl) (u1_11 hc_X12_saidSo_16 rfl) rfl
theorem dX12_saidSo_28 : decode cX12_saidSo 28 = .ok (.iaload, 1) := o_46 (u1_12 hc_X12_saidSo_16 rfl) rfl
theorem dX12_saidSo_29 : decode cX12_saidSo 29 = .ok (.iload_n 1, 1) := o_27 (u1_13 hc_X12_saidSo_16 rfl) rfl
theorem dX12_saidSo_30 : decode cX12_saidSo 30 = .ok (.if_icmp .ne 40, 3) := o_160 (u1_14 hc_X12_saidSo_16 rfl) (s2_d (u2_d (u1_15 hc_X12_saidSo_16 rfl) (u1_16 hc_X12_saidSo_16 rfl) rfl) rfl) rfl
theorem hc_X12_saidSo_32 : ((bL cX12_saidSo).drop 32).take 18 = [40, 42, 180, 0, 28, 21, 5, 46, 28, 160, 0, 29, 42, 180, 0, 31, 21, 5] := by decide +kernel
theorem dX12_saidSo_33 : decode cX12_saidSo 33 = .ok (.aload_n 0, 1) := o_42 (u1_1 hc_X12_saidSo_32 rfl) rfl
theorem dX12_saidSo_34 : decode cX12_saidSo 34 = .ok (.getfield 28, 3) := o_180 (u1_2 hc_X12_saidSo_32 rfl) (u2_d (u1_3 hc_X12_saidSo_32 rfl) (u1_4 hc_X12_saidSo_32 rfl) rfl) rfl
theorem dX12_saidSo_37 : decode cX12_saidSo 37 = .ok (.iload 5, 2) := o_21 (u1_5 hc_X12_saidSo_32 rfl) (u1_6 hc_X12_saidSo_32 rfl) rfl
theorem dX12_saidSo_39 : decode cX12_saidSo 39 = .ok (.iaload, 1) := o_46 (u1_7 hc_X12_saidSo_32 rfl) rfl
theorem dX12_saidSo_40 : decode cX12_saidSo 40 = .ok (.iload_n 2, 1) := o_28 (u1_8 hc_X12_saidSo_32 rfl) rfl
theorem dX12_saidSo_41 : decode cX12_saidSo 41 = .ok (.if_icmp .ne 29, 3) := o_160 (u1_9 hc_X12_saidSo_32 rfl) (s2_d (u2_d (u1_10 hc_X12_saidSo_32 rfl) (u1_11 hc_X12_saidSo_32 rfl) rfl) rfl) rfl
theorem dX12_saidSo_44 : decode cX12_saidSo 44 = .ok (.aload_n 0, 1) := o_42 (u1_12 hc_X12_saidSo_32 rfl) rfl
theorem dX12_saidSo_45 : decode cX12_saidSo 45 = .ok (.getfield 31, 3) := o_180 (u1_13 hc_X12_saidSo_32 rfl) (u2_d (u1_14 hc_X12_saidSo_32 rfl) (u1_15 hc_X12_saidSo_32 rfl) rfl) rfl
theorem hc_X12_saidSo_48 : ((bL cX12_saidSo).drop 48).take 18 = [21, 5, 46, 29, 160, 0, 18, 42, 180, 0, 34, 21, 5, 46, 21, 4, 160, 0] := by decide +kernel
theorem dX12_saidSo_48 : decode cX12_saidSo 48 = .ok (.iload 5, 2) := o_21 (u1_0 hc_X12_saidSo_48 rfl) (u1_1 hc_X12_saidSo_48 rfl) rfl
theorem dX12_saidSo_50 : decode cX12_saidSo 50 = .ok (.iaload, 1) := o_46 (u1_2 hc_X12_saidSo_48 rfl) rfl
theorem dX12_saidSo_51 : decode cX12_saidSo 51 = .ok (.iload_n 3, 1) := o_29 (u1_3 hc_X12_saidSo_48 rfl) rfl
theorem dX12_saidSo_52 : decode cX12_saidSo 52 = .ok (.if_icmp .ne 18, 3) := o_160 (u1_4 hc_X12_saidSo_48 rfl) (s2_d (u2_d (u1_5 hc_X12_saidSo_48 rfl) (u1_6 hc_X12_saidSo_48 rfl) rfl) rfl) rfl
theorem dX12_saidSo_55 : decode cX12_saidSo 55 = .ok (.aload_n 0, 1) := o_42 (u1_7 hc_X12_saidSo_48 rfl) rfl
theorem dX12_saidSo_56 : decode cX12_saidSo 56 = .ok (.getfield 34, 3) := o_180 (u1_8 hc_X12_saidSo_48 rfl) (u2_d (u1_9 hc_X12_saidSo_48 rfl) (u1_10 hc_X12_saidSo_48 rfl) rfl) rfl
theorem dX12_saidSo_59 : decode cX12_saidSo 59 = .ok (.iload 5, 2) := o_21 (u1_11 hc_X12_saidSo_48 rfl) (u1_12 hc_X12_saidSo_48 rfl) rfl
theorem dX12_saidSo_61 : decode cX12_saidSo 61 = .ok (.iaload, 1) := o_46 (u1_13 hc_X12_saidSo_48 rfl) rfl
theorem dX12_saidSo_62 : decode cX12_saidSo 62 = .ok (.iload 4, 2) := o_21 (u1_14 hc_X12_saidSo_48 rfl) (u1_15 hc_X12_saidSo_48 rfl) rfl
theorem hc_X12_saidSo_64 : ((bL cX12_saidSo).drop 64).take 18 = [160, 0, 6, 21, 5, 172, 132, 5, 1, 167, 255, 186, 16, 247, 172] := by decide +kernel
theorem dX12_saidSo_64 : decode cX12_saidSo 64 = .ok (.if_icmp .ne 6, 3) := o_160 (u1_0 hc_X12_saidSo_64 rfl) (s2_d (u2_d (u1_1 hc_X12_saidSo_64 rfl) (u1_2 hc_X12_saidSo_64 rfl) rfl) rfl) rfl
theorem dX12_saidSo_67 : decode cX12_saidSo 67 = .ok (.iload 5, 2) := o_21 (u1_3 hc_X12_saidSo_64 rfl) (u1_4 hc_X12_saidSo_64 rfl) rfl
theorem dX12_saidSo_69 : decode cX12_saidSo 69 = .ok (.ireturn, 1) := o_172 (u1_5 hc_X12_saidSo_64 rfl) rfl
theorem dX12_saidSo_70 : decode cX12_saidSo 70 = .ok (.iinc 5 1, 3) := o_132 (u1_6 hc_X12_saidSo_64 rfl) (u1_7 hc_X12_saidSo_64 rfl) (s1_d (u1_8 hc_X12_saidSo_64 rfl) rfl) rfl
theorem dX12_saidSo_73 : decode cX12_saidSo 73 = .ok (.goto (-70), 3) := o_167 (u1_9 hc_X12_saidSo_64 rfl) (s2_d (u2_d (u1_10 hc_X12_saidSo_64 rfl) (u1_11 hc_X12_saidSo_64 rfl) rfl) rfl) rfl
theorem dX12_saidSo_76 : decode cX12_saidSo 76 = .ok (.bipush (-9), 2) := o_16 (u1_12 hc_X12_saidSo_64 rfl) (s1_d (u1_13 hc_X12_saidSo_64 rfl) rfl) rfl
theorem dX12_saidSo_78 : decode cX12_saidSo 78 = .ok (.ireturn, 1) := o_172 (u1_14 hc_X12_saidSo_64 rfl) rfl
theorem hc_X12_clashes_0 : ((bL cX12_clashes).drop 0).take 18 = [42, 180, 0, 41, 42, 180, 0, 205, 27, 79, 42, 89, 180, 0, 205, 4, 96, 181] := by decide +kernel
theorem dX12_clashes_0 : decode cX12_clashes 0 = .ok (.aload_n 0, 1) := o_42 (u1_0 hc_X12_clashes_0 rfl) rfl
theorem dX12_clashes_1 : decode cX12_clashes 1 = .ok (.getfield 41, 3) := o_180 (u1_1 hc_X12_clashes_0 rfl) (u2_d (u1_2 hc_X12_clashes_0 rfl) (u1_3 hc_X12_clashes_0 rfl) rfl) rfl
theorem dX12_clashes_4 : decode cX12_clashes 4 = .ok (.aload_n 0, 1) := o_42 (u1_4 hc_X12_clashes_0 rfl) rfl
theorem dX12_clashes_5 : decode cX12_clashes 5 = .ok (.getfield 205, 3) := o_180 (u1_5 hc_X12_clashes_0 rfl) (u2_d (u1_6 hc_X12_clashes_0 rfl) (u1_7 hc_X12_clashes_0 rfl) rfl) rfl
theorem dX12_clashes_8 : decode cX12_clashes 8 = .ok (.iload_n 1, 1) := o_27 (u1_8 hc_X12_clashes_0 rfl) rfl
theorem dX12_clashes_9 : decode cX12_clashes 9 = .ok (.iastore, 1) := o_79 (u1_9 hc_X12_clashes_0 rfl) rfl
theorem dX12_clashes_10 : decode cX12_clashes 10 = .ok (.aload_n 0, 1) := o_42 (u1_10 hc_X12_clashes_0 rfl) rfl
theorem dX12_clashes_11 : decode cX12_clashes 11 = .ok (.dup, 1) := o_89 (u1_11 hc_X12_clashes_0 rfl) rfl
theorem dX12_clashes_12 : decode cX12_clashes 12 = .ok (.getfield 205, 3) := o_180 (u1_12 hc_X12_clashes_0 rfl) (u2_d (u1_13 hc_X12_clashes_0 rfl) (u1_14 hc_X12_clashes_0 rfl) rfl) rfl
theorem dX12_clashes_15 : decode cX12_clashes 15 = .ok (.iconst 1, 1) := o_4 (u1_15 hc_X12_clashes_0 rfl) rfl
theorem hc_X12_clashes_16 : ((bL cX12_clashes).drop 16).take 18 = [96, 181, 0, 205, 177] := by decide +kernel
theorem dX12_clashes_16 : decode cX12_clashes 16 = .ok (.iadd, 1) := o_96 (u1_0 hc_X12_clashes_16 rfl) rfl
theorem dX12_clashes_17 : decode cX12_clashes 17 = .ok (.putfield 205, 3) := o_181 (u1_1 hc_X12_clashes_16 rfl) (u2_d (u1_2 hc_X12_clashes_16 rfl) (u1_3 hc_X12_clashes_16 rfl) rfl) rfl
theorem dX12_clashes_20 : decode cX12_clashes 20 = .ok (.return_, 1) := o_177 (u1_4 hc_X12_clashes_16 rfl) rfl
theorem hc_X12_placing_0 : ((bL cX12_placing).drop 0).take 18 = [3, 61, 28, 42, 180, 0, 202, 162, 0, 40, 42, 180, 0, 37, 28, 51, 153, 0] := by decide +kernel
theorem dX12_placing_0 : decode cX12_placing 0 = .ok (.iconst 0, 1) := o_3 (u1_0 hc_X12_placing_0 rfl) rfl
theorem dX12_placing_1 : decode cX12_placing 1 = .ok (.istore_n 2, 1) := o_61 (u1_1 hc_X12_placing_0 rfl) rfl
theorem dX12_placing_2 : decode cX12_placing 2 = .ok (.iload_n 2, 1) := o_28 (u1_2 hc_X12_placing_0 rfl) rfl
theorem dX12_placing_3 : decode cX12_placing 3 = .ok (.aload_n 0, 1) := o_42 (u1_3 hc_X12_placing_0 rfl) rfl
theorem dX12_placing_4 : decode cX12_placing 4 = .ok (.getfield 202, 3) := o_180 (u1_4 hc_X12_placing_0 rfl) (u2_d (u1_5 hc_X12_placing_0 rfl) (u1_6 hc_X12_placing_0 rfl) rfl) rfl
theorem dX12_placing_7 : decode cX12_placing 7 = .ok (.if_icmp .ge 40, 3) := o_162 (u1_7 hc_X12_placing_0 rfl) (s2_d (u2_d (u1_8 hc_X12_placing_0 rfl) (u1_9 hc_X12_placing_0 rfl) rfl) rfl) rfl
theorem dX12_placing_10 : decode cX12_placing 10 = .ok (.aload_n 0, 1) := o_42 (u1_10 hc_X12_placing_0 rfl) rfl
theorem dX12_placing_11 : decode cX12_placing 11 = .ok (.getfield 37, 3) := o_180 (u1_11 hc_X12_placing_0 rfl) (u2_d (u1_12 hc_X12_placing_0 rfl) (u1_13 hc_X12_placing_0 rfl) rfl) rfl
theorem dX12_placing_14 : decode cX12_placing 14 = .ok (.iload_n 2, 1) := o_28 (u1_14 hc_X12_placing_0 rfl) rfl
theorem dX12_placing_15 : decode cX12_placing 15 = .ok (.baload, 1) := o_51 (u1_15 hc_X12_placing_0 rfl) rfl
theorem hc_X12_placing_16 : ((bL cX12_placing).drop 16).take 18 = [153, 0, 25, 42, 180, 0, 25, 28, 46, 8, 162, 0, 15, 42, 180, 0, 28, 28] := by decide +kernel
theorem dX12_placing_16 : decode cX12_placing 16 = .ok (.ifCond .eq 25, 3) := o_153 (u1_0 hc_X12_placing_16 rfl) (s2_d (u2_d (u1_1 hc_X12_placing_16 rfl) (u1_2 hc_X12_placing_16 rfl) rfl) rfl) rfl
theorem dX12_placing_19 : decode cX12_placing 19 = .ok (.aload_n 0, 1) := o_42 (u1_3 hc_X12_placing_16 rfl) rfl
theorem dX12_placing_20 : decode cX12_placing 20 = .ok (.getfield 25, 3) := o_180 (u1_4 hc_X12_placing_16 rfl) (u2_d (u1_5 hc_X12_placing_16 rfl) (u1_6 hc_X12_placing_16 rfl) rfl) rfl
theorem dX12_placing_23 : decode cX12_placing 23 = .ok (.iload_n 2, 1) := o_28 (u1_7 hc_X12_placing_16 rfl) rfl
theorem dX12_placing_24 : decode cX12_placing 24 = .ok (.iaload, 1) := o_46 (u1_8 hc_X12_placing_16 rfl) rfl
theorem dX12_placing_25 : decode cX12_placing 25 = .ok (.iconst 5, 1) := o_8 (u1_9 hc_X12_placing_16 rfl) rfl
theorem dX12_placing_26 : decode cX12_placing 26 = .ok (.if_icmp .ge 15, 3) := o_162 (u1_10 hc_X12_placing_16 rfl) (s2_d (u2_d (u1_11 hc_X12_placing_16 rfl) (u1_12 hc_X12_placing_16 rfl) rfl) rfl) rfl
theorem dX12_placing_29 : decode cX12_placing 29 = .ok (.aload_n 0, 1) := o_42 (u1_13 hc_X12_placing_16 rfl) rfl
theorem dX12_placing_30 : decode cX12_placing 30 = .ok (.getfield 28, 3) := o_180 (u1_14 hc_X12_placing_16 rfl) (u2_d (u1_15 hc_X12_placing_16 rfl) (u1_16 hc_X12_placing_16 rfl) rfl) rfl
theorem hc_X12_placing_32 : ((bL cX12_placing).drop 32).take 18 = [28, 28, 46, 27, 160, 0, 5, 28, 172, 132, 2, 1, 167, 255, 214, 16, 247, 172] := by decide +kernel
theorem dX12_placing_33 : decode cX12_placing 33 = .ok (.iload_n 2, 1) := o_28 (u1_1 hc_X12_placing_32 rfl) rfl
theorem dX12_placing_34 : decode cX12_placing 34 = .ok (.iaload, 1) := o_46 (u1_2 hc_X12_placing_32 rfl) rfl
theorem dX12_placing_35 : decode cX12_placing 35 = .ok (.iload_n 1, 1) := o_27 (u1_3 hc_X12_placing_32 rfl) rfl
theorem dX12_placing_36 : decode cX12_placing 36 = .ok (.if_icmp .ne 5, 3) := o_160 (u1_4 hc_X12_placing_32 rfl) (s2_d (u2_d (u1_5 hc_X12_placing_32 rfl) (u1_6 hc_X12_placing_32 rfl) rfl) rfl) rfl
theorem dX12_placing_39 : decode cX12_placing 39 = .ok (.iload_n 2, 1) := o_28 (u1_7 hc_X12_placing_32 rfl) rfl
theorem dX12_placing_40 : decode cX12_placing 40 = .ok (.ireturn, 1) := o_172 (u1_8 hc_X12_placing_32 rfl) rfl
theorem dX12_placing_41 : decode cX12_placing 41 = .ok (.iinc 2 1, 3) := o_132 (u1_9 hc_X12_placing_32 rfl) (u1_10 hc_X12_placing_32 rfl) (s1_d (u1_11 hc_X12_placing_32 rfl) rfl) rfl
theorem dX12_placing_44 : decode cX12_placing 44 = .ok (.goto (-42), 3) := o_167 (u1_12 hc_X12_placing_32 rfl) (s2_d (u2_d (u1_13 hc_X12_placing_32 rfl) (u1_14 hc_X12_placing_32 rfl) rfl) rfl) rfl
theorem dX12_placing_47 : decode cX12_placing 47 = .ok (.bipush (-9), 2) := o_16 (u1_15 hc_X12_placing_32 rfl) (s1_d (u1_16 hc_X12_placing_32 rfl) rfl) rfl
theorem hc_X12_placing_48 : ((bL cX12_placing).drop 48).take 18 = [247, 172] := by decide +kernel
theorem dX12_placing_49 : decode cX12_placing 49 = .ok (.ireturn, 1) := o_172 (u1_1 hc_X12_placing_48 rfl) rfl
theorem hc_X12_isPlaceBarred_0 : ((bL cX12_isPlaceBarred).drop 0).take 18 = [42, 28, 182, 0, 208, 54, 4, 21, 4, 16, 247, 159, 0, 11, 42, 21, 4, 182] := by decide +kernel
theorem dX12_isPlaceBarred_0 : decode cX12_isPlaceBarred 0 = .ok (.aload_n 0, 1) := o_42 (u1_0 hc_X12_isPlaceBarred_0 rfl) rfl
theorem dX12_isPlaceBarred_1 : decode cX12_isPlaceBarred 1 = .ok (.iload_n 2, 1) := o_28 (u1_1 hc_X12_isPlaceBarred_0 rfl) rfl
theorem dX12_isPlaceBarred_2 : decode cX12_isPlaceBarred 2 = .ok (.invokevirtual 208, 3) := o_182 (u1_2 hc_X12_isPlaceBarred_0 rfl) (u2_d (u1_3 hc_X12_isPlaceBarred_0 rfl) (u1_4 hc_X12_isPlaceBarred_0 rfl) rfl) rfl
theorem dX12_isPlaceBarred_5 : decode cX12_isPlaceBarred 5 = .ok (.istore 4, 2) := o_54 (u1_5 hc_X12_isPlaceBarred_0 rfl) (u1_6 hc_X12_isPlaceBarred_0 rfl) rfl
theorem dX12_isPlaceBarred_7 : decode cX12_isPlaceBarred 7 = .ok (.iload 4, 2) := o_21 (u1_7 hc_X12_isPlaceBarred_0 rfl) (u1_8 hc_X12_isPlaceBarred_0 rfl) rfl
theorem dX12_isPlaceBarred_9 : decode cX12_isPlaceBarred 9 = .ok (.bipush (-9), 2) := o_16 (u1_9 hc_X12_isPlaceBarred_0 rfl) (s1_d (u1_10 hc_X12_isPlaceBarred_0 rfl) rfl) rfl
theorem dX12_isPlaceBarred_11 : decode cX12_isPlaceBarred 11 = .ok (.if_icmp .eq 11, 3) := o_159 (u1_11 hc_X12_isPlaceBarred_0 rfl) (s2_d (u2_d (u1_12 hc_X12_isPlaceBarred_0 rfl) (u1_13 hc_X12_isPlaceBarred_0 rfl) rfl) rfl) rfl
theorem dX12_isPlaceBarred_14 : decode cX12_isPlaceBarred 14 = .ok (.aload_n 0, 1) := o_42 (u1_14 hc_X12_isPlaceBarred_0 rfl) rfl
theorem dX12_isPlaceBarred_15 : decode cX12_isPlaceBarred 15 = .ok (.iload 4, 2) := o_21 (u1_15 hc_X12_isPlaceBarred_0 rfl) (u1_16 hc_X12_isPlaceBarred_0 rfl) rfl
theorem hc_X12_isPlaceBarred_16 : ((bL cX12_isPlaceBarred).drop 16).take 18 = [4, 182, 0, 212, 4, 172, 29, 54, 5, 21, 5, 28, 159, 0, 40, 42, 21, 5] := by decide +kernel
theorem dX12_isPlaceBarred_17 : decode cX12_isPlaceBarred 17 = .ok (.invokevirtual 212, 3) := o_182 (u1_1 hc_X12_isPlaceBarred_16 rfl) (u2_d (u1_2 hc_X12_isPlaceBarred_16 rfl) (u1_3 hc_X12_isPlaceBarred_16 rfl) rfl) rfl
theorem dX12_isPlaceBarred_20 : decode cX12_isPlaceBarred 20 = .ok (.iconst 1, 1) := o_4 (u1_4 hc_X12_isPlaceBarred_16 rfl) rfl
theorem dX12_isPlaceBarred_21 : decode cX12_isPlaceBarred 21 = .ok (.ireturn, 1) := o_172 (u1_5 hc_X12_isPlaceBarred_16 rfl) rfl
theorem dX12_isPlaceBarred_22 : decode cX12_isPlaceBarred 22 = .ok (.iload_n 3, 1) := o_29 (u1_6 hc_X12_isPlaceBarred_16 rfl) rfl
theorem dX12_isPlaceBarred_23 : decode cX12_isPlaceBarred 23 = .ok (.istore 5, 2) := o_54 (u1_7 hc_X12_isPlaceBarred_16 rfl) (u1_8 hc_X12_isPlaceBarred_16 rfl) rfl
theorem dX12_isPlaceBarred_25 : decode cX12_isPlaceBarred 25 = .ok (.iload 5, 2) := o_21 (u1_9 hc_X12_isPlaceBarred_16 rfl) (u1_10 hc_X12_isPlaceBarred_16 rfl) rfl
theorem dX12_isPlaceBarred_27 : decode cX12_isPlaceBarred 27 = .ok (.iload_n 2, 1) := o_28 (u1_11 hc_X12_isPlaceBarred_16 rfl) rfl
theorem dX12_isPlaceBarred_28 : decode cX12_isPlaceBarred 28 = .ok (.if_icmp .eq 40, 3) := o_159 (u1_12 hc_X12_isPlaceBarred_16 rfl) (s2_d (u2_d (u1_13 hc_X12_isPlaceBarred_16 rfl) (u1_14 hc_X12_isPlaceBarred_16 rfl) rfl) rfl) rfl
theorem dX12_isPlaceBarred_31 : decode cX12_isPlaceBarred 31 = .ok (.aload_n 0, 1) := o_42 (u1_15 hc_X12_isPlaceBarred_16 rfl) rfl
theorem hc_X12_isPlaceBarred_32 : ((bL cX12_isPlaceBarred).drop 32).take 18 = [21, 5, 182, 0, 208, 16, 247, 159, 0, 29, 42, 42, 21, 5, 182, 0, 208, 182] := by decide +kernel
theorem dX12_isPlaceBarred_32 : decode cX12_isPlaceBarred 32 = .ok (.iload 5, 2) := o_21 (u1_0 hc_X12_isPlaceBarred_32 rfl) (u1_1 hc_X12_isPlaceBarred_32 rfl) rfl
theorem dX12_isPlaceBarred_34 : decode cX12_isPlaceBarred 34 = .ok (.invokevirtual 208, 3) := o_182 (u1_2 hc_X12_isPlaceBarred_32 rfl) (u2_d (u1_3 hc_X12_isPlaceBarred_32 rfl) (u1_4 hc_X12_isPlaceBarred_32 rfl) rfl) rfl
theorem dX12_isPlaceBarred_37 : decode cX12_isPlaceBarred 37 = .ok (.bipush (-9), 2) := o_16 (u1_5 hc_X12_isPlaceBarred_32 rfl) (s1_d (u1_6 hc_X12_isPlaceBarred_32 rfl) rfl) rfl
theorem dX12_isPlaceBarred_39 : decode cX12_isPlaceBarred 39 = .ok (.if_icmp .eq 29, 3) := o_159 (u1_7 hc_X12_isPlaceBarred_32 rfl) (s2_d (u2_d (u1_8 hc_X12_isPlaceBarred_32 rfl) (u1_9 hc_X12_isPlaceBarred_32 rfl) rfl) rfl) rfl
theorem dX12_isPlaceBarred_42 : decode cX12_isPlaceBarred 42 = .ok (.aload_n 0, 1) := o_42 (u1_10 hc_X12_isPlaceBarred_32 rfl) rfl
theorem dX12_isPlaceBarred_43 : decode cX12_isPlaceBarred 43 = .ok (.aload_n 0, 1) := o_42 (u1_11 hc_X12_isPlaceBarred_32 rfl) rfl
theorem dX12_isPlaceBarred_44 : decode cX12_isPlaceBarred 44 = .ok (.iload 5, 2) := o_21 (u1_12 hc_X12_isPlaceBarred_32 rfl) (u1_13 hc_X12_isPlaceBarred_32 rfl) rfl
theorem dX12_isPlaceBarred_46 : decode cX12_isPlaceBarred 46 = .ok (.invokevirtual 208, 3) := o_182 (u1_14 hc_X12_isPlaceBarred_32 rfl) (u2_d (u1_15 hc_X12_isPlaceBarred_32 rfl) (u1_16 hc_X12_isPlaceBarred_32 rfl) rfl) rfl
theorem hc_X12_isPlaceBarred_48 : ((bL cX12_isPlaceBarred).drop 48).take 18 = [208, 182, 0, 212, 42, 180, 0, 31, 42, 21, 5, 182, 0, 208, 46, 54, 5, 167] := by decide +kernel
theorem dX12_isPlaceBarred_49 : decode cX12_isPlaceBarred 49 = .ok (.invokevirtual 212, 3) := o_182 (u1_1 hc_X12_isPlaceBarred_48 rfl) (u2_d (u1_2 hc_X12_isPlaceBarred_48 rfl) (u1_3 hc_X12_isPlaceBarred_48 rfl) rfl) rfl
theorem dX12_isPlaceBarred_52 : decode cX12_isPlaceBarred 52 = .ok (.aload_n 0, 1) := o_42 (u1_4 hc_X12_isPlaceBarred_48 rfl) rfl
theorem dX12_isPlaceBarred_53 : decode cX12_isPlaceBarred 53 = .ok (.getfield 31, 3) := o_180 (u1_5 hc_X12_isPlaceBarred_48 rfl) (u2_d (u1_6 hc_X12_isPlaceBarred_48 rfl) (u1_7 hc_X12_isPlaceBarred_48 rfl) rfl) rfl
theorem dX12_isPlaceBarred_56 : decode cX12_isPlaceBarred 56 = .ok (.aload_n 0, 1) := o_42 (u1_8 hc_X12_isPlaceBarred_48 rfl) rfl
theorem dX12_isPlaceBarred_57 : decode cX12_isPlaceBarred 57 = .ok (.iload 5, 2) := o_21 (u1_9 hc_X12_isPlaceBarred_48 rfl) (u1_10 hc_X12_isPlaceBarred_48 rfl) rfl
theorem dX12_isPlaceBarred_59 : decode cX12_isPlaceBarred 59 = .ok (.invokevirtual 208, 3) := o_182 (u1_11 hc_X12_isPlaceBarred_48 rfl) (u2_d (u1_12 hc_X12_isPlaceBarred_48 rfl) (u1_13 hc_X12_isPlaceBarred_48 rfl) rfl) rfl
theorem dX12_isPlaceBarred_62 : decode cX12_isPlaceBarred 62 = .ok (.iaload, 1) := o_46 (u1_14 hc_X12_isPlaceBarred_48 rfl) rfl
theorem dX12_isPlaceBarred_63 : decode cX12_isPlaceBarred 63 = .ok (.istore 5, 2) := o_54 (u1_15 hc_X12_isPlaceBarred_48 rfl) (u1_16 hc_X12_isPlaceBarred_48 rfl) rfl
theorem hc_X12_isPlaceBarred_64 : ((bL cX12_isPlaceBarred).drop 64).take 18 = [5, 167, 255, 216, 21, 5, 28, 160, 0, 5, 4, 172, 42, 3, 181, 0, 205, 27] := by decide +kernel
theorem dX12_isPlaceBarred_65 : decode cX12_isPlaceBarred 65 = .ok (.goto (-40), 3) := o_167 (u1_1 hc_X12_isPlaceBarred_64 rfl) (s2_d (u2_d (u1_2 hc_X12_isPlaceBarred_64 rfl) (u1_3 hc_X12_isPlaceBarred_64 rfl) rfl) rfl) rfl
theorem dX12_isPlaceBarred_68 : decode cX12_isPlaceBarred 68 = .ok (.iload 5, 2) := o_21 (u1_4 hc_X12_isPlaceBarred_64 rfl) (u1_5 hc_X12_isPlaceBarred_64 rfl) rfl
theorem dX12_isPlaceBarred_70 : decode cX12_isPlaceBarred 70 = .ok (.iload_n 2, 1) := o_28 (u1_6 hc_X12_isPlaceBarred_64 rfl) rfl
theorem dX12_isPlaceBarred_71 : decode cX12_isPlaceBarred 71 = .ok (.if_icmp .ne 5, 3) := o_160 (u1_7 hc_X12_isPlaceBarred_64 rfl) (s2_d (u2_d (u1_8 hc_X12_isPlaceBarred_64 rfl) (u1_9 hc_X12_isPlaceBarred_64 rfl) rfl) rfl) rfl
theorem dX12_isPlaceBarred_74 : decode cX12_isPlaceBarred 74 = .ok (.iconst 1, 1) := o_4 (u1_10 hc_X12_isPlaceBarred_64 rfl) rfl
theorem dX12_isPlaceBarred_75 : decode cX12_isPlaceBarred 75 = .ok (.ireturn, 1) := o_172 (u1_11 hc_X12_isPlaceBarred_64 rfl) rfl
theorem dX12_isPlaceBarred_76 : decode cX12_isPlaceBarred 76 = .ok (.aload_n 0, 1) := o_42 (u1_12 hc_X12_isPlaceBarred_64 rfl) rfl
theorem dX12_isPlaceBarred_77 : decode cX12_isPlaceBarred 77 = .ok (.iconst 0, 1) := o_3 (u1_13 hc_X12_isPlaceBarred_64 rfl) rfl
theorem dX12_isPlaceBarred_78 : decode cX12_isPlaceBarred 78 = .ok (.putfield 205, 3) := o_181 (u1_14 hc_X12_isPlaceBarred_64 rfl) (u2_d (u1_15 hc_X12_isPlaceBarred_64 rfl) (u1_16 hc_X12_isPlaceBarred_64 rfl) rfl) rfl
theorem hc_X12_isPlaceBarred_80 : ((bL cX12_isPlaceBarred).drop 80).take 18 = [205, 27, 6, 160, 0, 15, 42, 16, 6, 28, 7, 3, 182, 0, 216, 167, 0, 5] := by decide +kernel
theorem dX12_isPlaceBarred_81 : decode cX12_isPlaceBarred 81 = .ok (.iload_n 1, 1) := o_27 (u1_1 hc_X12_isPlaceBarred_80 rfl) rfl
theorem dX12_isPlaceBarred_82 : decode cX12_isPlaceBarred 82 = .ok (.iconst 3, 1) := o_6 (u1_2 hc_X12_isPlaceBarred_80 rfl) rfl
theorem dX12_isPlaceBarred_83 : decode cX12_isPlaceBarred 83 = .ok (.if_icmp .ne 15, 3) := o_160 (u1_3 hc_X12_isPlaceBarred_80 rfl) (s2_d (u2_d (u1_4 hc_X12_isPlaceBarred_80 rfl) (u1_5 hc_X12_isPlaceBarred_80 rfl) rfl) rfl) rfl
theorem dX12_isPlaceBarred_86 : decode cX12_isPlaceBarred 86 = .ok (.aload_n 0, 1) := o_42 (u1_6 hc_X12_isPlaceBarred_80 rfl) rfl
theorem dX12_isPlaceBarred_87 : decode cX12_isPlaceBarred 87 = .ok (.bipush 6, 2) := o_16 (u1_7 hc_X12_isPlaceBarred_80 rfl) (s1_d (u1_8 hc_X12_isPlaceBarred_80 rfl) rfl) rfl
theorem dX12_isPlaceBarred_89 : decode cX12_isPlaceBarred 89 = .ok (.iload_n 2, 1) := o_28 (u1_9 hc_X12_isPlaceBarred_80 rfl) rfl
theorem dX12_isPlaceBarred_90 : decode cX12_isPlaceBarred 90 = .ok (.iconst 4, 1) := o_7 (u1_10 hc_X12_isPlaceBarred_80 rfl) rfl
theorem dX12_isPlaceBarred_91 : decode cX12_isPlaceBarred 91 = .ok (.iconst 0, 1) := o_3 (u1_11 hc_X12_isPlaceBarred_80 rfl) rfl
theorem dX12_isPlaceBarred_92 : decode cX12_isPlaceBarred 92 = .ok (.invokevirtual 216, 3) := o_182 (u1_12 hc_X12_isPlaceBarred_80 rfl) (u2_d (u1_13 hc_X12_isPlaceBarred_80 rfl) (u1_14 hc_X12_isPlaceBarred_80 rfl) rfl) rfl
theorem dX12_isPlaceBarred_95 : decode cX12_isPlaceBarred 95 = .ok (.goto 5, 3) := o_167 (u1_15 hc_X12_isPlaceBarred_80 rfl) (s2_d (u2_d (u1_16 hc_X12_isPlaceBarred_80 rfl) (u1_17 hc_X12_isPlaceBarred_80 rfl) rfl) rfl) rfl
theorem hc_X12_isPlaceBarred_96 : ((bL cX12_isPlaceBarred).drop 96).take 18 = [0, 5, 16, 247, 54, 6, 21, 6, 16, 247, 159, 0, 9, 42, 21, 6, 182, 0] := by decide +kernel
theorem dX12_isPlaceBarred_98 : decode cX12_isPlaceBarred 98 = .ok (.bipush (-9), 2) := o_16 (u1_2 hc_X12_isPlaceBarred_96 rfl) (s1_d (u1_3 hc_X12_isPlaceBarred_96 rfl) rfl) rfl
theorem dX12_isPlaceBarred_100 : decode cX12_isPlaceBarred 100 = .ok (.istore 6, 2) := o_54 (u1_4 hc_X12_isPlaceBarred_96 rfl) (u1_5 hc_X12_isPlaceBarred_96 rfl) rfl
theorem dX12_isPlaceBarred_102 : decode cX12_isPlaceBarred 102 = .ok (.iload 6, 2) := o_21 (u1_6 hc_X12_isPlaceBarred_96 rfl) (u1_7 hc_X12_isPlaceBarred_96 rfl) rfl
theorem dX12_isPlaceBarred_104 : decode cX12_isPlaceBarred 104 = .ok (.bipush (-9), 2) := o_16 (u1_8 hc_X12_isPlaceBarred_96 rfl) (s1_d (u1_9 hc_X12_isPlaceBarred_96 rfl) rfl) rfl
theorem dX12_isPlaceBarred_106 : decode cX12_isPlaceBarred 106 = .ok (.if_icmp .eq 9, 3) := o_159 (u1_10 hc_X12_isPlaceBarred_96 rfl) (s2_d (u2_d (u1_11 hc_X12_isPlaceBarred_96 rfl) (u1_12 hc_X12_isPlaceBarred_96 rfl) rfl) rfl) rfl
theorem dX12_isPlaceBarred_109 : decode cX12_isPlaceBarred 109 = .ok (.aload_n 0, 1) := o_42 (u1_13 hc_X12_isPlaceBarred_96 rfl) rfl
theorem dX12_isPlaceBarred_110 : decode cX12_isPlaceBarred 110 = .ok (.iload 6, 2) := o_21 (u1_14 hc_X12_isPlaceBarred_96 rfl) (u1_15 hc_X12_isPlaceBarred_96 rfl) rfl
theorem hc_X12_isPlaceBarred_112 : ((bL cX12_isPlaceBarred).drop 112).take 18 = [182, 0, 212, 21, 6, 16, 247, 159, 0, 7, 4, 167, 0, 4, 3, 172] := by decide +kernel
theorem dX12_isPlaceBarred_112 : decode cX12_isPlaceBarred 112 = .ok (.invokevirtual 212, 3) := o_182 (u1_0 hc_X12_isPlaceBarred_112 rfl) (u2_d (u1_1 hc_X12_isPlaceBarred_112 rfl) (u1_2 hc_X12_isPlaceBarred_112 rfl) rfl) rfl
theorem dX12_isPlaceBarred_115 : decode cX12_isPlaceBarred 115 = .ok (.iload 6, 2) := o_21 (u1_3 hc_X12_isPlaceBarred_112 rfl) (u1_4 hc_X12_isPlaceBarred_112 rfl) rfl
theorem dX12_isPlaceBarred_117 : decode cX12_isPlaceBarred 117 = .ok (.bipush (-9), 2) := o_16 (u1_5 hc_X12_isPlaceBarred_112 rfl) (s1_d (u1_6 hc_X12_isPlaceBarred_112 rfl) rfl) rfl
theorem dX12_isPlaceBarred_119 : decode cX12_isPlaceBarred 119 = .ok (.if_icmp .eq 7, 3) := o_159 (u1_7 hc_X12_isPlaceBarred_112 rfl) (s2_d (u2_d (u1_8 hc_X12_isPlaceBarred_112 rfl) (u1_9 hc_X12_isPlaceBarred_112 rfl) rfl) rfl) rfl
theorem dX12_isPlaceBarred_122 : decode cX12_isPlaceBarred 122 = .ok (.iconst 1, 1) := o_4 (u1_10 hc_X12_isPlaceBarred_112 rfl) rfl
theorem dX12_isPlaceBarred_123 : decode cX12_isPlaceBarred 123 = .ok (.goto 4, 3) := o_167 (u1_11 hc_X12_isPlaceBarred_112 rfl) (s2_d (u2_d (u1_12 hc_X12_isPlaceBarred_112 rfl) (u1_13 hc_X12_isPlaceBarred_112 rfl) rfl) rfl) rfl
theorem dX12_isPlaceBarred_126 : decode cX12_isPlaceBarred 126 = .ok (.iconst 0, 1) := o_3 (u1_14 hc_X12_isPlaceBarred_112 rfl) rfl
theorem dX12_isPlaceBarred_127 : decode cX12_isPlaceBarred 127 = .ok (.ireturn, 1) := o_172 (u1_15 hc_X12_isPlaceBarred_112 rfl) rfl
theorem hc_X12_isExitBarred_0 : ((bL cX12_isExitBarred).drop 0).take 18 = [3, 54, 4, 21, 4, 42, 180, 0, 202, 162, 0, 60, 42, 180, 0, 37, 21, 4] := by decide +kernel
theorem dX12_isExitBarred_0 : decode cX12_isExitBarred 0 = .ok (.iconst 0, 1) := o_3 (u1_0 hc_X12_isExitBarred_0 rfl) rfl
theorem dX12_isExitBarred_1 : decode cX12_isExitBarred 1 = .ok (.istore 4, 2) := o_54 (u1_1 hc_X12_isExitBarred_0 rfl) (u1_2 hc_X12_isExitBarred_0 rfl) rfl
theorem dX12_isExitBarred_3 : decode cX12_isExitBarred 3 = .ok (.iload 4, 2) := o_21 (u1_3 hc_X12_isExitBarred_0 rfl) (u1_4 hc_X12_isExitBarred_0 rfl) rfl
theorem dX12_isExitBarred_5 : decode cX12_isExitBarred 5 = .ok (.aload_n 0, 1) := o_42 (u1_5 hc_X12_isExitBarred_0 rfl) rfl
theorem dX12_isExitBarred_6 : decode cX12_isExitBarred 6 = .ok (.getfield 202, 3) := o_180 (u1_6 hc_X12_isExitBarred_0 rfl) (u2_d (u1_7 hc_X12_isExitBarred_0 rfl) (u1_8 hc_X12_isExitBarred_0 rfl) rfl) rfl
theorem dX12_isExitBarred_9 : decode cX12_isExitBarred 9 = .ok (.if_icmp .ge 60, 3) := o_162 (u1_9 hc_X12_isExitBarred_0 rfl) (s2_d (u2_d (u1_10 hc_X12_isExitBarred_0 rfl) (u1_11 hc_X12_isExitBarred_0 rfl) rfl) rfl) rfl
theorem dX12_isExitBarred_12 : decode cX12_isExitBarred 12 = .ok (.aload_n 0, 1) := o_42 (u1_12 hc_X12_isExitBarred_0 rfl) rfl
theorem dX12_isExitBarred_13 : decode cX12_isExitBarred 13 = .ok (.getfield 37, 3) := o_180 (u1_13 hc_X12_isExitBarred_0 rfl) (u2_d (u1_14 hc_X12_isExitBarred_0 rfl) (u1_15 hc_X12_isExitBarred_0 rfl) rfl) rfl
theorem hc_X12_isExitBarred_16 : ((bL cX12_isExitBarred).drop 16).take 18 = [21, 4, 51, 153, 0, 44, 42, 180, 0, 25, 21, 4, 46, 8, 160, 0, 33, 42] := by decide +kernel
theorem dX12_isExitBarred_16 : decode cX12_isExitBarred 16 = .ok (.iload 4, 2) := o_21 (u1_0 hc_X12_isExitBarred_16 rfl) (u1_1 hc_X12_isExitBarred_16 rfl) rfl
theorem dX12_isExitBarred_18 : decode cX12_isExitBarred 18 = .ok (.baload, 1) := o_51 (u1_2 hc_X12_isExitBarred_16 rfl) rfl
theorem dX12_isExitBarred_19 : decode cX12_isExitBarred 19 = .ok (.ifCond .eq 44, 3) := o_153 (u1_3 hc_X12_isExitBarred_16 rfl) (s2_d (u2_d (u1_4 hc_X12_isExitBarred_16 rfl) (u1_5 hc_X12_isExitBarred_16 rfl) rfl) rfl) rfl
theorem dX12_isExitBarred_22 : decode cX12_isExitBarred 22 = .ok (.aload_n 0, 1) := o_42 (u1_6 hc_X12_isExitBarred_16 rfl) rfl
theorem dX12_isExitBarred_23 : decode cX12_isExitBarred 23 = .ok (.getfield 25, 3) := o_180 (u1_7 hc_X12_isExitBarred_16 rfl) (u2_d (u1_8 hc_X12_isExitBarred_16 rfl) (u1_9 hc_X12_isExitBarred_16 rfl) rfl) rfl
theorem dX12_isExitBarred_26 : decode cX12_isExitBarred 26 = .ok (.iload 4, 2) := o_21 (u1_10 hc_X12_isExitBarred_16 rfl) (u1_11 hc_X12_isExitBarred_16 rfl) rfl
theorem dX12_isExitBarred_28 : decode cX12_isExitBarred 28 = .ok (.iaload, 1) := o_46 (u1_12 hc_X12_isExitBarred_16 rfl) rfl
theorem dX12_isExitBarred_29 : decode cX12_isExitBarred 29 = .ok (.iconst 5, 1) := o_8 (u1_13 hc_X12_isExitBarred_16 rfl) rfl
theorem dX12_isExitBarred_30 : decode cX12_isExitBarred 30 = .ok (.if_icmp .ne 33, 3) := o_160 (u1_14 hc_X12_isExitBarred_16 rfl) (s2_d (u2_d (u1_15 hc_X12_isExitBarred_16 rfl) (u1_16 hc_X12_isExitBarred_16 rfl) rfl) rfl) rfl
theorem hc_X12_isExitBarred_32 : ((bL cX12_isExitBarred).drop 32).take 18 = [33, 42, 180, 0, 28, 21, 4, 46, 27, 160, 0, 22, 42, 180, 0, 34, 21, 4] := by decide +kernel
theorem dX12_isExitBarred_33 : decode cX12_isExitBarred 33 = .ok (.aload_n 0, 1) := o_42 (u1_1 hc_X12_isExitBarred_32 rfl) rfl
theorem dX12_isExitBarred_34 : decode cX12_isExitBarred 34 = .ok (.getfield 28, 3) := o_180 (u1_2 hc_X12_isExitBarred_32 rfl) (u2_d (u1_3 hc_X12_isExitBarred_32 rfl) (u1_4 hc_X12_isExitBarred_32 rfl) rfl) rfl
theorem dX12_isExitBarred_37 : decode cX12_isExitBarred 37 = .ok (.iload 4, 2) := o_21 (u1_5 hc_X12_isExitBarred_32 rfl) (u1_6 hc_X12_isExitBarred_32 rfl) rfl
theorem dX12_isExitBarred_39 : decode cX12_isExitBarred 39 = .ok (.iaload, 1) := o_46 (u1_7 hc_X12_isExitBarred_32 rfl) rfl
theorem dX12_isExitBarred_40 : decode cX12_isExitBarred 40 = .ok (.iload_n 1, 1) := o_27 (u1_8 hc_X12_isExitBarred_32 rfl) rfl
theorem dX12_isExitBarred_41 : decode cX12_isExitBarred 41 = .ok (.if_icmp .ne 22, 3) := o_160 (u1_9 hc_X12_isExitBarred_32 rfl) (s2_d (u2_d (u1_10 hc_X12_isExitBarred_32 rfl) (u1_11 hc_X12_isExitBarred_32 rfl) rfl) rfl) rfl
theorem dX12_isExitBarred_44 : decode cX12_isExitBarred 44 = .ok (.aload_n 0, 1) := o_42 (u1_12 hc_X12_isExitBarred_32 rfl) rfl
theorem dX12_isExitBarred_45 : decode cX12_isExitBarred 45 = .ok (.getfield 34, 3) := o_180 (u1_13 hc_X12_isExitBarred_32 rfl) (u2_d (u1_14 hc_X12_isExitBarred_32 rfl) (u1_15 hc_X12_isExitBarred_32 rfl) rfl) rfl
theorem hc_X12_isExitBarred_48 : ((bL cX12_isExitBarred).drop 48).take 18 = [21, 4, 46, 29, 160, 0, 11, 42, 21, 4, 182, 0, 212, 4, 172, 132, 4, 1] := by decide +kernel
theorem dX12_isExitBarred_48 : decode cX12_isExitBarred 48 = .ok (.iload 4, 2) := o_21 (u1_0 hc_X12_isExitBarred_48 rfl) (u1_1 hc_X12_isExitBarred_48 rfl) rfl
theorem dX12_isExitBarred_50 : decode cX12_isExitBarred 50 = .ok (.iaload, 1) := o_46 (u1_2 hc_X12_isExitBarred_48 rfl) rfl
theorem dX12_isExitBarred_51 : decode cX12_isExitBarred 51 = .ok (.iload_n 3, 1) := o_29 (u1_3 hc_X12_isExitBarred_48 rfl) rfl
theorem dX12_isExitBarred_52 : decode cX12_isExitBarred 52 = .ok (.if_icmp .ne 11, 3) := o_160 (u1_4 hc_X12_isExitBarred_48 rfl) (s2_d (u2_d (u1_5 hc_X12_isExitBarred_48 rfl) (u1_6 hc_X12_isExitBarred_48 rfl) rfl) rfl) rfl
theorem dX12_isExitBarred_55 : decode cX12_isExitBarred 55 = .ok (.aload_n 0, 1) := o_42 (u1_7 hc_X12_isExitBarred_48 rfl) rfl
theorem dX12_isExitBarred_56 : decode cX12_isExitBarred 56 = .ok (.iload 4, 2) := o_21 (u1_8 hc_X12_isExitBarred_48 rfl) (u1_9 hc_X12_isExitBarred_48 rfl) rfl
theorem dX12_isExitBarred_58 : decode cX12_isExitBarred 58 = .ok (.invokevirtual 212, 3) := o_182 (u1_10 hc_X12_isExitBarred_48 rfl) (u2_d (u1_11 hc_X12_isExitBarred_48 rfl) (u1_12 hc_X12_isExitBarred_48 rfl) rfl) rfl
theorem dX12_isExitBarred_61 : decode cX12_isExitBarred 61 = .ok (.iconst 1, 1) := o_4 (u1_13 hc_X12_isExitBarred_48 rfl) rfl
theorem dX12_isExitBarred_62 : decode cX12_isExitBarred 62 = .ok (.ireturn, 1) := o_172 (u1_14 hc_X12_isExitBarred_48 rfl) rfl
theorem dX12_isExitBarred_63 : decode cX12_isExitBarred 63 = .ok (.iinc 4 1, 3) := o_132 (u1_15 hc_X12_isExitBarred_48 rfl) (u1_16 hc_X12_isExitBarred_48 rfl) (s1_d (u1_17 hc_X12_isExitBarred_48 rfl) rfl) rfl
theorem hc_X12_isExitBarred_64 : ((bL cX12_isExitBarred).drop 64).take 18 = [4, 1, 167, 255, 193, 42, 28, 5, 182, 0, 184, 154, 0, 5, 3, 172, 3, 54] := by decide +kernel
theorem dX12_isExitBarred_66 : decode cX12_isExitBarred 66 = .ok (.goto (-63), 3) := o_167 (u1_2 hc_X12_isExitBarred_64 rfl) (s2_d (u2_d (u1_3 hc_X12_isExitBarred_64 rfl) (u1_4 hc_X12_isExitBarred_64 rfl) rfl) rfl) rfl
theorem dX12_isExitBarred_69 : decode cX12_isExitBarred 69 = .ok (.aload_n 0, 1) := o_42 (u1_5 hc_X12_isExitBarred_64 rfl) rfl
theorem dX12_isExitBarred_70 : decode cX12_isExitBarred 70 = .ok (.iload_n 2, 1) := o_28 (u1_6 hc_X12_isExitBarred_64 rfl) rfl
theorem dX12_isExitBarred_71 : decode cX12_isExitBarred 71 = .ok (.iconst 2, 1) := o_5 (u1_7 hc_X12_isExitBarred_64 rfl) rfl
theorem dX12_isExitBarred_72 : decode cX12_isExitBarred 72 = .ok (.invokevirtual 184, 3) := o_182 (u1_8 hc_X12_isExitBarred_64 rfl) (u2_d (u1_9 hc_X12_isExitBarred_64 rfl) (u1_10 hc_X12_isExitBarred_64 rfl) rfl) rfl
theorem dX12_isExitBarred_75 : decode cX12_isExitBarred 75 = .ok (.ifCond .ne 5, 3) := o_154 (u1_11 hc_X12_isExitBarred_64 rfl) (s2_d (u2_d (u1_12 hc_X12_isExitBarred_64 rfl) (u1_13 hc_X12_isExitBarred_64 rfl) rfl) rfl) rfl
theorem dX12_isExitBarred_78 : decode cX12_isExitBarred 78 = .ok (.iconst 0, 1) := o_3 (u1_14 hc_X12_isExitBarred_64 rfl) rfl
theorem dX12_isExitBarred_79 : decode cX12_isExitBarred 79 = .ok (.ireturn, 1) := o_172 (u1_15 hc_X12_isExitBarred_64 rfl) rfl
theorem hc_X12_isExitBarred_80 : ((bL cX12_isExitBarred).drop 80).take 18 = [3, 54, 4, 21, 4, 42, 180, 0, 202, 162, 0, 60, 42, 180, 0, 37, 21, 4] := by decide +kernel
theorem dX12_isExitBarred_80 : decode cX12_isExitBarred 80 = .ok (.iconst 0, 1) := o_3 (u1_0 hc_X12_isExitBarred_80 rfl) rfl
theorem dX12_isExitBarred_81 : decode cX12_isExitBarred 81 = .ok (.istore 4, 2) := o_54 (u1_1 hc_X12_isExitBarred_80 rfl) (u1_2 hc_X12_isExitBarred_80 rfl) rfl
theorem dX12_isExitBarred_83 : decode cX12_isExitBarred 83 = .ok (.iload 4, 2) := o_21 (u1_3 hc_X12_isExitBarred_80 rfl) (u1_4 hc_X12_isExitBarred_80 rfl) rfl
theorem dX12_isExitBarred_85 : decode cX12_isExitBarred 85 = .ok (.aload_n 0, 1) := o_42 (u1_5 hc_X12_isExitBarred_80 rfl) rfl
theorem dX12_isExitBarred_86 : decode cX12_isExitBarred 86 = .ok (.getfield 202, 3) := o_180 (u1_6 hc_X12_isExitBarred_80 rfl) (u2_d (u1_7 hc_X12_isExitBarred_80 rfl) (u1_8 hc_X12_isExitBarred_80 rfl) rfl) rfl
theorem dX12_isExitBarred_89 : decode cX12_isExitBarred 89 = .ok (.if_icmp .ge 60, 3) := o_162 (u1_9 hc_X12_isExitBarred_80 rfl) (s2_d (u2_d (u1_10 hc_X12_isExitBarred_80 rfl) (u1_11 hc_X12_isExitBarred_80 rfl) rfl) rfl) rfl
theorem dX12_isExitBarred_92 : decode cX12_isExitBarred 92 = .ok (.aload_n 0, 1) := o_42 (u1_12 hc_X12_isExitBarred_80 rfl) rfl
theorem dX12_isExitBarred_93 : decode cX12_isExitBarred 93 = .ok (.getfield 37, 3) := o_180 (u1_13 hc_X12_isExitBarred_80 rfl) (u2_d (u1_14 hc_X12_isExitBarred_80 rfl) (u1_15 hc_X12_isExitBarred_80 rfl) rfl) rfl
theorem hc_X12_isExitBarred_96 : ((bL cX12_isExitBarred).drop 96).take 18 = [21, 4, 51, 153, 0, 44, 42, 180, 0, 25, 21, 4, 46, 8, 160, 0, 33, 42] := by decide +kernel
theorem dX12_isExitBarred_96 : decode cX12_isExitBarred 96 = .ok (.iload 4, 2) := o_21 (u1_0 hc_X12_isExitBarred_96 rfl) (u1_1 hc_X12_isExitBarred_96 rfl) rfl
theorem dX12_isExitBarred_98 : decode cX12_isExitBarred 98 = .ok (.baload, 1) := o_51 (u1_2 hc_X12_isExitBarred_96 rfl) rfl
theorem dX12_isExitBarred_99 : decode cX12_isExitBarred 99 = .ok (.ifCond .eq 44, 3) := o_153 (u1_3 hc_X12_isExitBarred_96 rfl) (s2_d (u2_d (u1_4 hc_X12_isExitBarred_96 rfl) (u1_5 hc_X12_isExitBarred_96 rfl) rfl) rfl) rfl
theorem dX12_isExitBarred_102 : decode cX12_isExitBarred 102 = .ok (.aload_n 0, 1) := o_42 (u1_6 hc_X12_isExitBarred_96 rfl) rfl
theorem dX12_isExitBarred_103 : decode cX12_isExitBarred 103 = .ok (.getfield 25, 3) := o_180 (u1_7 hc_X12_isExitBarred_96 rfl) (u2_d (u1_8 hc_X12_isExitBarred_96 rfl) (u1_9 hc_X12_isExitBarred_96 rfl) rfl) rfl
theorem dX12_isExitBarred_106 : decode cX12_isExitBarred 106 = .ok (.iload 4, 2) := o_21 (u1_10 hc_X12_isExitBarred_96 rfl) (u1_11 hc_X12_isExitBarred_96 rfl) rfl
theorem dX12_isExitBarred_108 : decode cX12_isExitBarred 108 = .ok (.iaload, 1) := o_46 (u1_12 hc_X12_isExitBarred_96 rfl) rfl
theorem dX12_isExitBarred_109 : decode cX12_isExitBarred 109 = .ok (.iconst 5, 1) := o_8 (u1_13 hc_X12_isExitBarred_96 rfl) rfl
theorem dX12_isExitBarred_110 : decode cX12_isExitBarred 110 = .ok (.if_icmp .ne 33, 3) := o_160 (u1_14 hc_X12_isExitBarred_96 rfl) (s2_d (u2_d (u1_15 hc_X12_isExitBarred_96 rfl) (u1_16 hc_X12_isExitBarred_96 rfl) rfl) rfl) rfl
theorem hc_X12_isExitBarred_112 : ((bL cX12_isExitBarred).drop 112).take 18 = [33, 42, 180, 0, 28, 21, 4, 46, 27, 160, 0, 22, 42, 180, 0, 31, 21, 4] := by decide +kernel
theorem dX12_isExitBarred_113 : decode cX12_isExitBarred 113 = .ok (.aload_n 0, 1) := o_42 (u1_1 hc_X12_isExitBarred_112 rfl) rfl
theorem dX12_isExitBarred_114 : decode cX12_isExitBarred 114 = .ok (.getfield 28, 3) := o_180 (u1_2 hc_X12_isExitBarred_112 rfl) (u2_d (u1_3 hc_X12_isExitBarred_112 rfl) (u1_4 hc_X12_isExitBarred_112 rfl) rfl) rfl
theorem dX12_isExitBarred_117 : decode cX12_isExitBarred 117 = .ok (.iload 4, 2) := o_21 (u1_5 hc_X12_isExitBarred_112 rfl) (u1_6 hc_X12_isExitBarred_112 rfl) rfl
theorem dX12_isExitBarred_119 : decode cX12_isExitBarred 119 = .ok (.iaload, 1) := o_46 (u1_7 hc_X12_isExitBarred_112 rfl) rfl
theorem dX12_isExitBarred_120 : decode cX12_isExitBarred 120 = .ok (.iload_n 1, 1) := o_27 (u1_8 hc_X12_isExitBarred_112 rfl) rfl
theorem dX12_isExitBarred_121 : decode cX12_isExitBarred 121 = .ok (.if_icmp .ne 22, 3) := o_160 (u1_9 hc_X12_isExitBarred_112 rfl) (s2_d (u2_d (u1_10 hc_X12_isExitBarred_112 rfl) (u1_11 hc_X12_isExitBarred_112 rfl) rfl) rfl) rfl
theorem dX12_isExitBarred_124 : decode cX12_isExitBarred 124 = .ok (.aload_n 0, 1) := o_42 (u1_12 hc_X12_isExitBarred_112 rfl) rfl
theorem dX12_isExitBarred_125 : decode cX12_isExitBarred 125 = .ok (.getfield 31, 3) := o_180 (u1_13 hc_X12_isExitBarred_112 rfl) (u2_d (u1_14 hc_X12_isExitBarred_112 rfl) (u1_15 hc_X12_isExitBarred_112 rfl) rfl) rfl
theorem hc_X12_isExitBarred_128 : ((bL cX12_isExitBarred).drop 128).take 18 = [21, 4, 46, 28, 160, 0, 11, 42, 21, 4, 182, 0, 212, 4, 172, 132, 4, 1] := by decide +kernel
theorem dX12_isExitBarred_128 : decode cX12_isExitBarred 128 = .ok (.iload 4, 2) := o_21 (u1_0 hc_X12_isExitBarred_128 rfl) (u1_1 hc_X12_isExitBarred_128 rfl) rfl
theorem dX12_isExitBarred_130 : decode cX12_isExitBarred 130 = .ok (.iaload, 1) := o_46 (u1_2 hc_X12_isExitBarred_128 rfl) rfl
theorem dX12_isExitBarred_131 : decode cX12_isExitBarred 131 = .ok (.iload_n 2, 1) := o_28 (u1_3 hc_X12_isExitBarred_128 rfl) rfl
theorem dX12_isExitBarred_132 : decode cX12_isExitBarred 132 = .ok (.if_icmp .ne 11, 3) := o_160 (u1_4 hc_X12_isExitBarred_128 rfl) (s2_d (u2_d (u1_5 hc_X12_isExitBarred_128 rfl) (u1_6 hc_X12_isExitBarred_128 rfl) rfl) rfl) rfl
theorem dX12_isExitBarred_135 : decode cX12_isExitBarred 135 = .ok (.aload_n 0, 1) := o_42 (u1_7 hc_X12_isExitBarred_128 rfl) rfl
theorem dX12_isExitBarred_136 : decode cX12_isExitBarred 136 = .ok (.iload 4, 2) := o_21 (u1_8 hc_X12_isExitBarred_128 rfl) (u1_9 hc_X12_isExitBarred_128 rfl) rfl
theorem dX12_isExitBarred_138 : decode cX12_isExitBarred 138 = .ok (.invokevirtual 212, 3) := o_182 (u1_10 hc_X12_isExitBarred_128 rfl) (u2_d (u1_11 hc_X12_isExitBarred_128 rfl) (u1_12 hc_X12_isExitBarred_128 rfl) rfl) rfl
theorem dX12_isExitBarred_141 : decode cX12_isExitBarred 141 = .ok (.iconst 1, 1) := o_4 (u1_13 hc_X12_isExitBarred_128 rfl) rfl
theorem dX12_isExitBarred_142 : decode cX12_isExitBarred 142 = .ok (.ireturn, 1) := o_172 (u1_14 hc_X12_isExitBarred_128 rfl) rfl
theorem dX12_isExitBarred_143 : decode cX12_isExitBarred 143 = .ok (.iinc 4 1, 3) := o_132 (u1_15 hc_X12_isExitBarred_128 rfl) (u1_16 hc_X12_isExitBarred_128 rfl) (s1_d (u1_17 hc_X12_isExitBarred_128 rfl) rfl) rfl
theorem hc_X12_isExitBarred_144 : ((bL cX12_isExitBarred).drop 144).take 18 = [4, 1, 167, 255, 193, 3, 54, 4, 21, 4, 42, 180, 0, 202, 162, 0, 47, 42] := by decide +kernel
theorem dX12_isExitBarred_146 : decode cX12_isExitBarred 146 = .ok (.goto (-63), 3) := o_167 (u1_2 hc_X12_isExitBarred_144 rfl) (s2_d (u2_d (u1_3 hc_X12_isExitBarred_144 rfl) (u1_4 hc_X12_isExitBarred_144 rfl) rfl) rfl) rfl
theorem dX12_isExitBarred_149 : decode cX12_isExitBarred 149 = .ok (.iconst 0, 1) := o_3 (u1_5 hc_X12_isExitBarred_144 rfl) rfl
theorem dX12_isExitBarred_150 : decode cX12_isExitBarred 150 = .ok (.istore 4, 2) := o_54 (u1_6 hc_X12_isExitBarred_144 rfl) (u1_7 hc_X12_isExitBarred_144 rfl) rfl
theorem dX12_isExitBarred_152 : decode cX12_isExitBarred 152 = .ok (.iload 4, 2) := o_21 (u1_8 hc_X12_isExitBarred_144 rfl) (u1_9 hc_X12_isExitBarred_144 rfl) rfl
theorem dX12_isExitBarred_154 : decode cX12_isExitBarred 154 = .ok (.aload_n 0, 1) := o_42 (u1_10 hc_X12_isExitBarred_144 rfl) rfl
theorem dX12_isExitBarred_155 : decode cX12_isExitBarred 155 = .ok (.getfield 202, 3) := o_180 (u1_11 hc_X12_isExitBarred_144 rfl) (u2_d (u1_12 hc_X12_isExitBarred_144 rfl) (u1_13 hc_X12_isExitBarred_144 rfl) rfl) rfl
theorem dX12_isExitBarred_158 : decode cX12_isExitBarred 158 = .ok (.if_icmp .ge 47, 3) := o_162 (u1_14 hc_X12_isExitBarred_144 rfl) (s2_d (u2_d (u1_15 hc_X12_isExitBarred_144 rfl) (u1_16 hc_X12_isExitBarred_144 rfl) rfl) rfl) rfl
theorem hc_X12_isExitBarred_160 : ((bL cX12_isExitBarred).drop 160).take 18 = [47, 42, 180, 0, 37, 21, 4, 51, 153, 0, 31, 42, 180, 0, 25, 21, 4, 46] := by decide +kernel
theorem dX12_isExitBarred_161 : decode cX12_isExitBarred 161 = .ok (.aload_n 0, 1) := o_42 (u1_1 hc_X12_isExitBarred_160 rfl) rfl
theorem dX12_isExitBarred_162 : decode cX12_isExitBarred 162 = .ok (.getfield 37, 3) := o_180 (u1_2 hc_X12_isExitBarred_160 rfl) (u2_d (u1_3 hc_X12_isExitBarred_160 rfl) (u1_4 hc_X12_isExitBarred_160 rfl) rfl) rfl
theorem dX12_isExitBarred_165 : decode cX12_isExitBarred 165 = .ok (.iload 4, 2) := o_21 (u1_5 hc_X12_isExitBarred_160 rfl) (u1_6 hc_X12_isExitBarred_160 rfl) rfl
theorem dX12_isExitBarred_167 : decode cX12_isExitBarred 167 = .ok (.baload, 1) := o_51 (u1_7 hc_X12_isExitBarred_160 rfl) rfl
theorem dX12_isExitBarred_168 : decode cX12_isExitBarred 168 = .ok (.ifCond .eq 31, 3) := o_153 (u1_8 hc_X12_isExitBarred_160 rfl) (s2_d (u2_d (u1_9 hc_X12_isExitBarred_160 rfl) (u1_10 hc_X12_isExitBarred_160 rfl) rfl) rfl) rfl
theorem dX12_isExitBarred_171 : decode cX12_isExitBarred 171 = .ok (.aload_n 0, 1) := o_42 (u1_11 hc_X12_isExitBarred_160 rfl) rfl
theorem dX12_isExitBarred_172 : decode cX12_isExitBarred 172 = .ok (.getfield 25, 3) := o_180 (u1_12 hc_X12_isExitBarred_160 rfl) (u2_d (u1_13 hc_X12_isExitBarred_160 rfl) (u1_14 hc_X12_isExitBarred_160 rfl) rfl) rfl
theorem dX12_isExitBarred_175 : decode cX12_isExitBarred 175 = .ok (.iload 4, 2) := o_21 (u1_15 hc_X12_isExitBarred_160 rfl) (u1_16 hc_X12_isExitBarred_160 rfl) rfl
theorem hc_X12_isExitBarred_176 : ((bL cX12_isExitBarred).drop 176).take 18 = [4, 46, 8, 160, 0, 20, 42, 180, 0, 31, 21, 4, 46, 28, 160, 0, 9, 42] := by decide +kernel
theorem dX12_isExitBarred_177 : decode cX12_isExitBarred 177 = .ok (.iaload, 1) := o_46 (u1_1 hc_X12_isExitBarred_176 rfl) rfl
theorem dX12_isExitBarred_178 : decode cX12_isExitBarred 178 = .ok (.iconst 5, 1) := o_8 (u1_2 hc_X12_isExitBarred_176 rfl) rfl
theorem dX12_isExitBarred_179 : decode cX12_isExitBarred 179 = .ok (.if_icmp .ne 20, 3) := o_160 (u1_3 hc_X12_isExitBarred_176 rfl) (s2_d (u2_d (u1_4 hc_X12_isExitBarred_176 rfl) (u1_5 hc_X12_isExitBarred_176 rfl) rfl) rfl) rfl
theorem dX12_isExitBarred_182 : decode cX12_isExitBarred 182 = .ok (.aload_n 0, 1) := o_42 (u1_6 hc_X12_isExitBarred_176 rfl) rfl
theorem dX12_isExitBarred_183 : decode cX12_isExitBarred 183 = .ok (.getfield 31, 3) := o_180 (u1_7 hc_X12_isExitBarred_176 rfl) (u2_d (u1_8 hc_X12_isExitBarred_176 rfl) (u1_9 hc_X12_isExitBarred_176 rfl) rfl) rfl
theorem dX12_isExitBarred_186 : decode cX12_isExitBarred 186 = .ok (.iload 4, 2) := o_21 (u1_10 hc_X12_isExitBarred_176 rfl) (u1_11 hc_X12_isExitBarred_176 rfl) rfl
theorem dX12_isExitBarred_188 : decode cX12_isExitBarred 188 = .ok (.iaload, 1) := o_46 (u1_12 hc_X12_isExitBarred_176 rfl) rfl
theorem dX12_isExitBarred_189 : decode cX12_isExitBarred 189 = .ok (.iload_n 2, 1) := o_28 (u1_13 hc_X12_isExitBarred_176 rfl) rfl
theorem dX12_isExitBarred_190 : decode cX12_isExitBarred 190 = .ok (.if_icmp .ne 9, 3) := o_160 (u1_14 hc_X12_isExitBarred_176 rfl) (s2_d (u2_d (u1_15 hc_X12_isExitBarred_176 rfl) (u1_16 hc_X12_isExitBarred_176 rfl) rfl) rfl) rfl
theorem hc_X12_isExitBarred_192 : ((bL cX12_isExitBarred).drop 192).take 18 = [9, 42, 21, 4, 182, 0, 212, 132, 4, 1, 167, 255, 206, 42, 180, 0, 205, 5] := by decide +kernel
theorem dX12_isExitBarred_193 : decode cX12_isExitBarred 193 = .ok (.aload_n 0, 1) := o_42 (u1_1 hc_X12_isExitBarred_192 rfl) rfl
theorem dX12_isExitBarred_194 : decode cX12_isExitBarred 194 = .ok (.iload 4, 2) := o_21 (u1_2 hc_X12_isExitBarred_192 rfl) (u1_3 hc_X12_isExitBarred_192 rfl) rfl
theorem dX12_isExitBarred_196 : decode cX12_isExitBarred 196 = .ok (.invokevirtual 212, 3) := o_182 (u1_4 hc_X12_isExitBarred_192 rfl) (u2_d (u1_5 hc_X12_isExitBarred_192 rfl) (u1_6 hc_X12_isExitBarred_192 rfl) rfl) rfl
theorem dX12_isExitBarred_199 : decode cX12_isExitBarred 199 = .ok (.iinc 4 1, 3) := o_132 (u1_7 hc_X12_isExitBarred_192 rfl) (u1_8 hc_X12_isExitBarred_192 rfl) (s1_d (u1_9 hc_X12_isExitBarred_192 rfl) rfl) rfl
theorem dX12_isExitBarred_202 : decode cX12_isExitBarred 202 = .ok (.goto (-50), 3) := o_167 (u1_10 hc_X12_isExitBarred_192 rfl) (s2_d (u2_d (u1_11 hc_X12_isExitBarred_192 rfl) (u1_12 hc_X12_isExitBarred_192 rfl) rfl) rfl) rfl
theorem dX12_isExitBarred_205 : decode cX12_isExitBarred 205 = .ok (.aload_n 0, 1) := o_42 (u1_13 hc_X12_isExitBarred_192 rfl) rfl
theorem dX12_isExitBarred_206 : decode cX12_isExitBarred 206 = .ok (.getfield 205, 3) := o_180 (u1_14 hc_X12_isExitBarred_192 rfl) (u2_d (u1_15 hc_X12_isExitBarred_192 rfl) (u1_16 hc_X12_isExitBarred_192 rfl) rfl) rfl
theorem hc_X12_isExitBarred_208 : ((bL cX12_isExitBarred).drop 208).take 18 = [205, 5, 162, 0, 8, 42, 3, 181, 0, 205, 42, 180, 0, 205, 158, 0, 7, 4] := by decide +kernel
theorem dX12_isExitBarred_209 : decode cX12_isExitBarred 209 = .ok (.iconst 2, 1) := o_5 (u1_1 hc_X12_isExitBarred_208 rfl) rfl
theorem dX12_isExitBarred_210 : decode cX12_isExitBarred 210 = .ok (.if_icmp .ge 8, 3) := o_162 (u1_2 hc_X12_isExitBarred_208 rfl) (s2_d (u2_d (u1_3 hc_X12_isExitBarred_208 rfl) (u1_4 hc_X12_isExitBarred_208 rfl) rfl) rfl) rfl
theorem dX12_isExitBarred_213 : decode cX12_isExitBarred 213 = .ok (.aload_n 0, 1) := o_42 (u1_5 hc_X12_isExitBarred_208 rfl) rfl
theorem dX12_isExitBarred_214 : decode cX12_isExitBarred 214 = .ok (.iconst 0, 1) := o_3 (u1_6 hc_X12_isExitBarred_208 rfl) rfl
theorem dX12_isExitBarred_215 : decode cX12_isExitBarred 215 = .ok (.putfield 205, 3) := o_181 (u1_7 hc_X12_isExitBarred_208 rfl) (u2_d (u1_8 hc_X12_isExitBarred_208 rfl) (u1_9 hc_X12_isExitBarred_208 rfl) rfl) rfl
theorem dX12_isExitBarred_218 : decode cX12_isExitBarred 218 = .ok (.aload_n 0, 1) := o_42 (u1_10 hc_X12_isExitBarred_208 rfl) rfl
theorem dX12_isExitBarred_219 : decode cX12_isExitBarred 219 = .ok (.getfield 205, 3) := o_180 (u1_11 hc_X12_isExitBarred_208 rfl) (u2_d (u1_12 hc_X12_isExitBarred_208 rfl) (u1_13 hc_X12_isExitBarred_208 rfl) rfl) rfl
theorem dX12_isExitBarred_222 : decode cX12_isExitBarred 222 = .ok (.ifCond .le 7, 3) := o_158 (u1_14 hc_X12_isExitBarred_208 rfl) (s2_d (u2_d (u1_15 hc_X12_isExitBarred_208 rfl) (u1_16 hc_X12_isExitBarred_208 rfl) rfl) rfl) rfl
theorem hc_X12_isExitBarred_224 : ((bL cX12_isExitBarred).drop 224).take 18 = [7, 4, 167, 0, 4, 3, 172] := by decide +kernel
theorem dX12_isExitBarred_225 : decode cX12_isExitBarred 225 = .ok (.iconst 1, 1) := o_4 (u1_1 hc_X12_isExitBarred_224 rfl) rfl
theorem dX12_isExitBarred_226 : decode cX12_isExitBarred 226 = .ok (.goto 4, 3) := o_167 (u1_2 hc_X12_isExitBarred_224 rfl) (s2_d (u2_d (u1_3 hc_X12_isExitBarred_224 rfl) (u1_4 hc_X12_isExitBarred_224 rfl) rfl) rfl) rfl
theorem dX12_isExitBarred_229 : decode cX12_isExitBarred 229 = .ok (.iconst 0, 1) := o_3 (u1_5 hc_X12_isExitBarred_224 rfl) rfl
theorem dX12_isExitBarred_230 : decode cX12_isExitBarred 230 = .ok (.ireturn, 1) := o_172 (u1_6 hc_X12_isExitBarred_224 rfl) rfl
theorem hc_X12_isFlagBarred_0 : ((bL cX12_isFlagBarred).drop 0).take 18 = [42, 16, 6, 27, 28, 4, 29, 100, 182, 0, 216, 54, 4, 21, 4, 16, 247, 160] := by decide +kernel
theorem dX12_isFlagBarred_0 : decode cX12_isFlagBarred 0 = .ok (.aload_n 0, 1) := o_42 (u1_0 hc_X12_isFlagBarred_0 rfl) rfl
theorem dX12_isFlagBarred_1 : decode cX12_isFlagBarred 1 = .ok (.bipush 6, 2) := o_16 (u1_1 hc_X12_isFlagBarred_0 rfl) (s1_d (u1_2 hc_X12_isFlagBarred_0 rfl) rfl) rfl
theorem dX12_isFlagBarred_3 : decode cX12_isFlagBarred 3 = .ok (.iload_n 1, 1) := o_27 (u1_3 hc_X12_isFlagBarred_0 rfl) rfl
theorem dX12_isFlagBarred_4 : decode cX12_isFlagBarred 4 = .ok (.iload_n 2, 1) := o_28 (u1_4 hc_X12_isFlagBarred_0 rfl) rfl
theorem dX12_isFlagBarred_5 : decode cX12_isFlagBarred 5 = .ok (.iconst 1, 1) := o_4 (u1_5 hc_X12_isFlagBarred_0 rfl) rfl
theorem dX12_isFlagBarred_6 : decode cX12_isFlagBarred 6 = .ok (.iload_n 3, 1) := o_29 (u1_6 hc_X12_isFlagBarred_0 rfl) rfl
theorem dX12_isFlagBarred_7 : decode cX12_isFlagBarred 7 = .ok (.isub, 1) := o_100 (u1_7 hc_X12_isFlagBarred_0 rfl) rfl
theorem dX12_isFlagBarred_8 : decode cX12_isFlagBarred 8 = .ok (.invokevirtual 216, 3) := o_182 (u1_8 hc_X12_isFlagBarred_0 rfl) (u2_d (u1_9 hc_X12_isFlagBarred_0 rfl) (u1_10 hc_X12_isFlagBarred_0 rfl) rfl) rfl
theorem dX12_isFlagBarred_11 : decode cX12_isFlagBarred 11 = .ok (.istore 4, 2) := o_54 (u1_11 hc_X12_isFlagBarred_0 rfl) (u1_12 hc_X12_isFlagBarred_0 rfl) rfl
theorem dX12_isFlagBarred_13 : decode cX12_isFlagBarred 13 = .ok (.iload 4, 2) := o_21 (u1_13 hc_X12_isFlagBarred_0 rfl) (u1_14 hc_X12_isFlagBarred_0 rfl) rfl
theorem dX12_isFlagBarred_15 : decode cX12_isFlagBarred 15 = .ok (.bipush (-9), 2) := o_16 (u1_15 hc_X12_isFlagBarred_0 rfl) (s1_d (u1_16 hc_X12_isFlagBarred_0 rfl) rfl) rfl
theorem hc_X12_isFlagBarred_16 : ((bL cX12_isFlagBarred).drop 16).take 18 = [247, 160, 0, 30, 29, 4, 160, 0, 25, 28, 153, 0, 8, 28, 4, 160, 0, 16] := by decide +kernel
theorem dX12_isFlagBarred_17 : decode cX12_isFlagBarred 17 = .ok (.if_icmp .ne 30, 3) := o_160 (u1_1 hc_X12_isFlagBarred_16 rfl) (s2_d (u2_d (u1_2 hc_X12_isFlagBarred_16 rfl) (u1_3 hc_X12_isFlagBarred_16 rfl) rfl) rfl) rfl
theorem dX12_isFlagBarred_20 : decode cX12_isFlagBarred 20 = .ok (.iload_n 3, 1) := o_29 (u1_4 hc_X12_isFlagBarred_16 rfl) rfl
theorem dX12_isFlagBarred_21 : decode cX12_isFlagBarred 21 = .ok (.iconst 1, 1) := o_4 (u1_5 hc_X12_isFlagBarred_16 rfl) rfl
theorem dX12_isFlagBarred_22 : decode cX12_isFlagBarred 22 = .ok (.if_icmp .ne 25, 3) := o_160 (u1_6 hc_X12_isFlagBarred_16 rfl) (s2_d (u2_d (u1_7 hc_X12_isFlagBarred_16 rfl) (u1_8 hc_X12_isFlagBarred_16 rfl) rfl) rfl) rfl
theorem dX12_isFlagBarred_25 : decode cX12_isFlagBarred 25 = .ok (.iload_n 2, 1) := o_28 (u1_9 hc_X12_isFlagBarred_16 rfl) rfl
theorem dX12_isFlagBarred_26 : decode cX12_isFlagBarred 26 = .ok (.ifCond .eq 8, 3) := o_153 (u1_10 hc_X12_isFlagBarred_16 rfl) (s2_d (u2_d (u1_11 hc_X12_isFlagBarred_16 rfl) (u1_12 hc_X12_isFlagBarred_16 rfl) rfl) rfl) rfl
theorem dX12_isFlagBarred_29 : decode cX12_isFlagBarred 29 = .ok (.iload_n 2, 1) := o_28 (u1_13 hc_X12_isFlagBarred_16 rfl) rfl
theorem dX12_isFlagBarred_30 : decode cX12_isFlagBarred 30 = .ok (.iconst 1, 1) := o_4 (u1_14 hc_X12_isFlagBarred_16 rfl) rfl
theorem dX12_isFlagBarred_31 : decode cX12_isFlagBarred 31 = .ok (.if_icmp .ne 16, 3) := o_160 (u1_15 hc_X12_isFlagBarred_16 rfl) (s2_d (u2_d (u1_16 hc_X12_isFlagBarred_16 rfl) (u1_17 hc_X12_isFlagBarred_16 rfl) rfl) rfl) rfl
theorem hc_X12_isFlagBarred_32 : ((bL cX12_isFlagBarred).drop 32).take 18 = [0, 16, 42, 16, 6, 27, 4, 28, 100, 4, 182, 0, 216, 54, 4, 21, 4, 16] := by decide +kernel
theorem dX12_isFlagBarred_34 : decode cX12_isFlagBarred 34 = .ok (.aload_n 0, 1) := o_42 (u1_2 hc_X12_isFlagBarred_32 rfl) rfl
theorem dX12_isFlagBarred_35 : decode cX12_isFlagBarred 35 = .ok (.bipush 6, 2) := o_16 (u1_3 hc_X12_isFlagBarred_32 rfl) (s1_d (u1_4 hc_X12_isFlagBarred_32 rfl) rfl) rfl
theorem dX12_isFlagBarred_37 : decode cX12_isFlagBarred 37 = .ok (.iload_n 1, 1) := o_27 (u1_5 hc_X12_isFlagBarred_32 rfl) rfl
theorem dX12_isFlagBarred_38 : decode cX12_isFlagBarred 38 = .ok (.iconst 1, 1) := o_4 (u1_6 hc_X12_isFlagBarred_32 rfl) rfl
theorem dX12_isFlagBarred_39 : decode cX12_isFlagBarred 39 = .ok (.iload_n 2, 1) := o_28 (u1_7 hc_X12_isFlagBarred_32 rfl) rfl
theorem dX12_isFlagBarred_40 : decode cX12_isFlagBarred 40 = .ok (.isub, 1) := o_100 (u1_8 hc_X12_isFlagBarred_32 rfl) rfl
