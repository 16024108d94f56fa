theorem dX11_digestKinds_59 : decode cX11_digestKinds 59 = .ok (.bipush 6, 2) := by decide +kernel
theorem dX11_digestKinds_61 : decode cX11_digestKinds 61 = .ok (.imul, 1) := by decide +kernel
theorem dX11_digestKinds_62 : decode cX11_digestKinds 62 = .ok (.iload 6, 2) := by decide +kernel
theorem dX11_digestKinds_64 : decode cX11_digestKinds 64 = .ok (.iadd, 1) := by decide +kernel
theorem dX11_digestKinds_65 : decode cX11_digestKinds 65 = .ok (.iaload, 1) := by decide +kernel
theorem dX11_digestKinds_66 : decode cX11_digestKinds 66 = .ok (.i2l, 1) := by decide +kernel
theorem dX11_digestKinds_67 : decode cX11_digestKinds 67 = .ok (.ladd, 1) := by decide +kernel
theorem dX11_digestKinds_68 : decode cX11_digestKinds 68 = .ok (.lstore_n 3, 1) := by decide +kernel
theorem dX11_digestKinds_69 : decode cX11_digestKinds 69 = .ok (.iinc 6 1, 3) := by decide +kernel
theorem dX11_digestKinds_72 : decode cX11_digestKinds 72 = .ok (.goto (-34), 3) := by decide +kernel
theorem dX11_digestKinds_75 : decode cX11_digestKinds 75 = .ok (.iinc 5 1, 3) := by decide +kernel
theorem dX11_digestKinds_78 : decode cX11_digestKinds 78 = .ok (.goto (-73), 3) := by decide +kernel
theorem dX11_digestKinds_81 : decode cX11_digestKinds 81 = .ok (.lload_n 3, 1) := by decide +kernel
theorem dX11_digestKinds_82 : decode cX11_digestKinds 82 = .ok (.lreturn, 1) := by decide +kernel
theorem dX11_digestObjects_0 : decode cX11_digestObjects 0 = .ok (.lload_n 1, 1) := by decide +kernel
theorem dX11_digestObjects_1 : decode cX11_digestObjects 1 = .ok (.lstore_n 3, 1) := by decide +kernel
theorem dX11_digestObjects_2 : decode cX11_digestObjects 2 = .ok (.iconst 0, 1) := by decide +kernel
theorem dX11_digestObjects_3 : decode cX11_digestObjects 3 = .ok (.istore 5, 2) := by decide +kernel
theorem dX11_digestObjects_5 : decode cX11_digestObjects 5 = .ok (.iload 5, 2) := by decide +kernel
theorem dX11_digestObjects_7 : decode cX11_digestObjects 7 = .ok (.aload_n 0, 1) := by decide +kernel
theorem dX11_digestObjects_8 : decode cX11_digestObjects 8 = .ok (.getfield 10, 3) := by decide +kernel
theorem dX11_digestObjects_11 : decode cX11_digestObjects 11 = .ok (.getfield 102, 3) := by decide +kernel
theorem dX11_digestObjects_14 : decode cX11_digestObjects 14 = .ok (.if_icmp .ge 130, 3) := by decide +kernel
theorem dX11_digestObjects_144 : decode cX11_digestObjects 144 = .ok (.lload_n 3, 1) := by decide +kernel
theorem dX11_digestObjects_145 : decode cX11_digestObjects 145 = .ok (.lreturn, 1) := by decide +kernel
theorem dX11_digestSentences_0 : decode cX11_digestSentences 0 = .ok (.lload_n 1, 1) := by decide +kernel
theorem dX11_digestSentences_1 : decode cX11_digestSentences 1 = .ok (.lstore_n 3, 1) := by decide +kernel
theorem dX11_digestSentences_2 : decode cX11_digestSentences 2 = .ok (.iconst 0, 1) := by decide +kernel
theorem dX11_digestSentences_3 : decode cX11_digestSentences 3 = .ok (.istore 5, 2) := by decide +kernel
theorem dX11_digestSentences_5 : decode cX11_digestSentences 5 = .ok (.iload 5, 2) := by decide +kernel
theorem dX11_digestSentences_7 : decode cX11_digestSentences 7 = .ok (.aload_n 0, 1) := by decide +kernel
theorem dX11_digestSentences_8 : decode cX11_digestSentences 8 = .ok (.getfield 21, 3) := by decide +kernel
theorem dX11_digestSentences_11 : decode cX11_digestSentences 11 = .ok (.getfield 168, 3) := by decide +kernel
theorem dX11_digestSentences_14 : decode cX11_digestSentences 14 = .ok (.if_icmp .ge 43, 3) := by decide +kernel
theorem dX11_digestSentences_57 : decode cX11_digestSentences 57 = .ok (.lload_n 3, 1) := by decide +kernel
theorem dX11_digestSentences_58 : decode cX11_digestSentences 58 = .ok (.lreturn, 1) := by decide +kernel
theorem dX11_answerFinding_0 : decode cX11_answerFinding 0 = .ok (.aload_n 0, 1) := by decide +kernel
theorem dX11_answerFinding_1 : decode cX11_answerFinding 1 = .ok (.iload_n 1, 1) := by decide +kernel
theorem dX11_answerFinding_2 : decode cX11_answerFinding 2 = .ok (.putfield 72, 3) := by decide +kernel
theorem dX11_answerFinding_5 : decode cX11_answerFinding 5 = .ok (.aload_n 0, 1) := by decide +kernel
theorem dX11_answerFinding_6 : decode cX11_answerFinding 6 = .ok (.getfield 68, 3) := by decide +kernel
theorem dX11_answerFinding_9 : decode cX11_answerFinding 9 = .ok (.iload_n 1, 1) := by decide +kernel
theorem dX11_answerFinding_10 : decode cX11_answerFinding 10 = .ok (.dup2, 1) := by decide +kernel
theorem dX11_answerFinding_11 : decode cX11_answerFinding 11 = .ok (.iaload, 1) := by decide +kernel
theorem dX11_answerFinding_12 : decode cX11_answerFinding 12 = .ok (.iconst 1, 1) := by decide +kernel
theorem dX11_answerFinding_13 : decode cX11_answerFinding 13 = .ok (.iadd, 1) := by decide +kernel
theorem dX11_answerFinding_14 : decode cX11_answerFinding 14 = .ok (.iastore, 1) := by decide +kernel
theorem dX11_answerFinding_15 : decode cX11_answerFinding 15 = .ok (.bipush (-3), 2) := by decide +kernel
theorem dX11_answerFinding_17 : decode cX11_answerFinding 17 = .ok (.ireturn, 1) := by decide +kernel
theorem dX11_refuseRooms_0 : decode cX11_refuseRooms 0 = .ok (.aload_n 0, 1) := by decide +kernel
theorem dX11_refuseRooms_1 : decode cX11_refuseRooms 1 = .ok (.getfield 10, 3) := by decide +kernel
theorem dX11_refuseRooms_4 : decode cX11_refuseRooms 4 = .ok (.iload_n 1, 1) := by decide +kernel
theorem dX11_refuseRooms_5 : decode cX11_refuseRooms 5 = .ok (.invokevirtual 109, 3) := by decide +kernel
theorem dX11_refuseRooms_8 : decode cX11_refuseRooms 8 = .ok (.ifCond .eq 14, 3) := by decide +kernel
theorem dX11_refuseRooms_22 : decode cX11_refuseRooms 22 = .ok (.iconst (-1), 1) := by decide +kernel
theorem dX11_refuseRooms_23 : decode cX11_refuseRooms 23 = .ok (.ireturn, 1) := by decide +kernel
theorem dX11_refuseItem_0 : decode cX11_refuseItem 0 = .ok (.aload_n 0, 1) := by decide +kernel
theorem dX11_refuseItem_1 : decode cX11_refuseItem 1 = .ok (.getfield 10, 3) := by decide +kernel
theorem dX11_refuseItem_4 : decode cX11_refuseItem 4 = .ok (.iload_n 1, 1) := by decide +kernel
theorem dX11_refuseItem_5 : decode cX11_refuseItem 5 = .ok (.invokevirtual 109, 3) := by decide +kernel
theorem dX11_refuseItem_8 : decode cX11_refuseItem 8 = .ok (.ifCond .eq 11, 3) := by decide +kernel
theorem dX11_refuseItem_19 : decode cX11_refuseItem 19 = .ok (.iconst (-1), 1) := by decide +kernel
theorem dX11_refuseItem_20 : decode cX11_refuseItem 20 = .ok (.ireturn, 1) := by decide +kernel
theorem dX11_isBelow_0 : decode cX11_isBelow 0 = .ok (.iload_n 0, 1) := by decide +kernel
theorem dX11_isBelow_1 : decode cX11_isBelow 1 = .ok (.ifCond .lt 12, 3) := by decide +kernel
theorem dX11_isBelow_4 : decode cX11_isBelow 4 = .ok (.iload_n 0, 1) := by decide +kernel
theorem dX11_isBelow_5 : decode cX11_isBelow 5 = .ok (.iload_n 1, 1) := by decide +kernel
theorem dX11_isBelow_6 : decode cX11_isBelow 6 = .ok (.if_icmp .ge 7, 3) := by decide +kernel
theorem dX11_isBelow_9 : decode cX11_isBelow 9 = .ok (.iconst 1, 1) := by decide +kernel
theorem dX11_isBelow_10 : decode cX11_isBelow 10 = .ok (.goto 4, 3) := by decide +kernel
theorem dX11_isBelow_13 : decode cX11_isBelow 13 = .ok (.iconst 0, 1) := by decide +kernel
theorem dX11_isBelow_14 : decode cX11_isBelow 14 = .ok (.ireturn, 1) := by decide +kernel
theorem dX12_init_0 : decode cX12_init 0 = .ok (.aload_n 0, 1) := by decide +kernel
theorem dX12_init_1 : decode cX12_init 1 = .ok (.invokespecial 1, 3) := by decide +kernel
theorem dX12_init_4 : decode cX12_init 4 = .ok (.aload_n 0, 1) := by decide +kernel
theorem dX12_init_5 : decode cX12_init 5 = .ok (.bipush 7, 2) := by decide +kernel
theorem dX12_init_7 : decode cX12_init 7 = .ok (.newarray .int, 2) := by decide +kernel
theorem dX12_init_9 : decode cX12_init 9 = .ok (.putfield 7, 3) := by decide +kernel
theorem dX12_init_12 : decode cX12_init 12 = .ok (.aload_n 0, 1) := by decide +kernel
theorem dX12_init_13 : decode cX12_init 13 = .ok (.bipush 24, 2) := by decide +kernel
theorem dX12_init_15 : decode cX12_init 15 = .ok (.newarray .int, 2) := by decide +kernel
theorem dX12_init_17 : decode cX12_init 17 = .ok (.putfield 13, 3) := by decide +kernel
theorem dX12_init_20 : decode cX12_init 20 = .ok (.aload_n 0, 1) := by decide +kernel
theorem dX12_init_21 : decode cX12_init 21 = .ok (.sipush 144, 3) := by decide +kernel
theorem dX12_init_24 : decode cX12_init 24 = .ok (.newarray .int, 2) := by decide +kernel
theorem dX12_init_26 : decode cX12_init 26 = .ok (.putfield 16, 3) := by decide +kernel
theorem dX12_init_29 : decode cX12_init 29 = .ok (.aload_n 0, 1) := by decide +kernel
theorem dX12_init_30 : decode cX12_init 30 = .ok (.bipush 30, 2) := by decide +kernel
theorem dX12_init_32 : decode cX12_init 32 = .ok (.newarray .int, 2) := by decide +kernel
theorem dX12_init_34 : decode cX12_init 34 = .ok (.putfield 19, 3) := by decide +kernel
theorem dX12_init_37 : decode cX12_init 37 = .ok (.aload_n 0, 1) := by decide +kernel
theorem dX12_init_38 : decode cX12_init 38 = .ok (.bipush 30, 2) := by decide +kernel
theorem dX12_init_40 : decode cX12_init 40 = .ok (.newarray .int, 2) := by decide +kernel
theorem dX12_init_42 : decode cX12_init 42 = .ok (.putfield 22, 3) := by decide +kernel
theorem dX12_init_45 : decode cX12_init 45 = .ok (.aload_n 0, 1) := by decide +kernel
theorem dX12_init_46 : decode cX12_init 46 = .ok (.sipush 200, 3) := by decide +kernel
theorem dX12_init_49 : decode cX12_init 49 = .ok (.newarray .int, 2) := by decide +kernel
theorem dX12_init_51 : decode cX12_init 51 = .ok (.putfield 25, 3) := by decide +kernel
theorem dX12_init_54 : decode cX12_init 54 = .ok (.aload_n 0, 1) := by decide +kernel
theorem dX12_init_55 : decode cX12_init 55 = .ok (.sipush 200, 3) := by decide +kernel
theorem dX12_init_58 : decode cX12_init 58 = .ok (.newarray .int, 2) := by decide +kernel
theorem dX12_init_60 : decode cX12_init 60 = .ok (.putfield 28, 3) := by decide +kernel
theorem dX12_init_63 : decode cX12_init 63 = .ok (.aload_n 0, 1) := by decide +kernel
theorem dX12_init_64 : decode cX12_init 64 = .ok (.sipush 200, 3) := by decide +kernel
theorem dX12_init_67 : decode cX12_init 67 = .ok (.newarray .int, 2) := by decide +kernel
theorem dX12_init_69 : decode cX12_init 69 = .ok (.putfield 31, 3) := by decide +kernel
theorem dX12_init_72 : decode cX12_init 72 = .ok (.aload_n 0, 1) := by decide +kernel
theorem dX12_init_73 : decode cX12_init 73 = .ok (.sipush 200, 3) := by decide +kernel
theorem dX12_init_76 : decode cX12_init 76 = .ok (.newarray .int, 2) := by decide +kernel
theorem dX12_init_78 : decode cX12_init 78 = .ok (.putfield 34, 3) := by decide +kernel
theorem dX12_init_81 : decode cX12_init 81 = .ok (.aload_n 0, 1) := by decide +kernel
theorem dX12_init_82 : decode cX12_init 82 = .ok (.sipush 200, 3) := by decide +kernel
theorem dX12_init_85 : decode cX12_init 85 = .ok (.newarray .boolean, 2) := by decide +kernel
theorem dX12_init_87 : decode cX12_init 87 = .ok (.putfield 37, 3) := by decide +kernel
theorem dX12_init_90 : decode cX12_init 90 = .ok (.aload_n 0, 1) := by decide +kernel
theorem dX12_init_91 : decode cX12_init 91 = .ok (.sipush 200, 3) := by decide +kernel
theorem dX12_init_94 : decode cX12_init 94 = .ok (.newarray .int, 2) := by decide +kernel
theorem dX12_init_96 : decode cX12_init 96 = .ok (.putfield 41, 3) := by decide +kernel
theorem dX12_init_99 : decode cX12_init 99 = .ok (.aload_n 0, 1) := by decide +kernel
theorem dX12_init_100 : decode cX12_init 100 = .ok (.bipush 30, 2) := by decide +kernel
theorem dX12_init_102 : decode cX12_init 102 = .ok (.newarray .int, 2) := by decide +kernel
theorem dX12_init_104 : decode cX12_init 104 = .ok (.putfield 44, 3) := by decide +kernel
theorem dX12_init_107 : decode cX12_init 107 = .ok (.aload_n 0, 1) := by decide +kernel
theorem dX12_init_108 : decode cX12_init 108 = .ok (.bipush 30, 2) := by decide +kernel
theorem dX12_init_110 : decode cX12_init 110 = .ok (.newarray .int, 2) := by decide +kernel
theorem dX12_init_112 : decode cX12_init 112 = .ok (.putfield 47, 3) := by decide +kernel
theorem dX12_init_115 : decode cX12_init 115 = .ok (.aload_n 0, 1) := by decide +kernel
theorem dX12_init_116 : decode cX12_init 116 = .ok (.bipush 30, 2) := by decide +kernel
theorem dX12_init_118 : decode cX12_init 118 = .ok (.newarray .int, 2) := by decide +kernel
theorem dX12_init_120 : decode cX12_init 120 = .ok (.putfield 50, 3) := by decide +kernel
theorem dX12_init_123 : decode cX12_init 123 = .ok (.aload_n 0, 1) := by decide +kernel
theorem dX12_init_124 : decode cX12_init 124 = .ok (.bipush 30, 2) := by decide +kernel
theorem dX12_init_126 : decode cX12_init 126 = .ok (.newarray .int, 2) := by decide +kernel
theorem dX12_init_128 : decode cX12_init 128 = .ok (.putfield 53, 3) := by decide +kernel
theorem dX12_init_131 : decode cX12_init 131 = .ok (.aload_n 0, 1) := by decide +kernel
theorem dX12_init_132 : decode cX12_init 132 = .ok (.bipush 30, 2) := by decide +kernel
theorem dX12_init_134 : decode cX12_init 134 = .ok (.newarray .boolean, 2) := by decide +kernel
theorem dX12_init_136 : decode cX12_init 136 = .ok (.putfield 56, 3) := by decide +kernel
theorem dX12_init_139 : decode cX12_init 139 = .ok (.aload_n 0, 1) := by decide +kernel
theorem dX12_init_140 : decode cX12_init 140 = .ok (.bipush 30, 2) := by decide +kernel
theorem dX12_init_142 : decode cX12_init 142 = .ok (.newarray .boolean, 2) := by decide +kernel
theorem dX12_init_144 : decode cX12_init 144 = .ok (.putfield 59, 3) := by decide +kernel
theorem dX12_init_147 : decode cX12_init 147 = .ok (.aload_n 0, 1) := by decide +kernel
theorem dX12_init_148 : decode cX12_init 148 = .ok (.sipush 300, 3) := by decide +kernel
theorem dX12_init_151 : decode cX12_init 151 = .ok (.newarray .int, 2) := by decide +kernel
theorem dX12_init_153 : decode cX12_init 153 = .ok (.putfield 62, 3) := by decide +kernel
theorem dX12_init_156 : decode cX12_init 156 = .ok (.aload_n 0, 1) := by decide +kernel
theorem dX12_init_157 : decode cX12_init 157 = .ok (.sipush 3000, 3) := by decide +kernel
theorem dX12_init_160 : decode cX12_init 160 = .ok (.newarray .int, 2) := by decide +kernel
theorem dX12_init_162 : decode cX12_init 162 = .ok (.putfield 65, 3) := by decide +kernel
theorem dX12_init_165 : decode cX12_init 165 = .ok (.aload_n 0, 1) := by decide +kernel
theorem dX12_init_166 : decode cX12_init 166 = .ok (.sipush 3000, 3) := by decide +kernel
theorem dX12_init_169 : decode cX12_init 169 = .ok (.newarray .int, 2) := by decide +kernel
theorem dX12_init_171 : decode cX12_init 171 = .ok (.putfield 68, 3) := by decide +kernel
theorem dX12_init_174 : decode cX12_init 174 = .ok (.aload_n 0, 1) := by decide +kernel
theorem dX12_init_175 : decode cX12_init 175 = .ok (.sipush 3000, 3) := by decide +kernel
theorem dX12_init_178 : decode cX12_init 178 = .ok (.newarray .boolean, 2) := by decide +kernel
theorem dX12_init_180 : decode cX12_init 180 = .ok (.putfield 71, 3) := by decide +kernel
theorem dX12_init_183 : decode cX12_init 183 = .ok (.aload_n 0, 1) := by decide +kernel
theorem dX12_init_184 : decode cX12_init 184 = .ok (.sipush 3000, 3) := by decide +kernel
theorem dX12_init_187 : decode cX12_init 187 = .ok (.newarray .boolean, 2) := by decide +kernel
theorem dX12_init_189 : decode cX12_init 189 = .ok (.putfield 74, 3) := by decide +kernel
theorem dX12_init_192 : decode cX12_init 192 = .ok (.aload_n 0, 1) := by decide +kernel
theorem dX12_init_193 : decode cX12_init 193 = .ok (.bipush 100, 2) := by decide +kernel
theorem dX12_init_195 : decode cX12_init 195 = .ok (.newarray .int, 2) := by decide +kernel
theorem dX12_init_197 : decode cX12_init 197 = .ok (.putfield 77, 3) := by decide +kernel
theorem dX12_init_200 : decode cX12_init 200 = .ok (.aload_n 0, 1) := by decide +kernel
theorem dX12_init_201 : decode cX12_init 201 = .ok (.bipush 30, 2) := by decide +kernel
theorem dX12_init_203 : decode cX12_init 203 = .ok (.newarray .int, 2) := by decide +kernel
theorem dX12_init_205 : decode cX12_init 205 = .ok (.putfield 80, 3) := by decide +kernel
theorem dX12_init_208 : decode cX12_init 208 = .ok (.aload_n 0, 1) := by decide +kernel
theorem dX12_init_209 : decode cX12_init 209 = .ok (.bipush 30, 2) := by decide +kernel
theorem dX12_init_211 : decode cX12_init 211 = .ok (.newarray .int, 2) := by decide +kernel
theorem dX12_init_213 : decode cX12_init 213 = .ok (.putfield 83, 3) := by decide +kernel
theorem dX12_init_216 : decode cX12_init 216 = .ok (.aload_n 0, 1) := by decide +kernel
theorem dX12_init_217 : decode cX12_init 217 = .ok (.bipush 30, 2) := by decide +kernel
theorem dX12_init_219 : decode cX12_init 219 = .ok (.newarray .boolean, 2) := by decide +kernel
theorem dX12_init_221 : decode cX12_init 221 = .ok (.putfield 86, 3) := by decide +kernel
theorem dX12_init_224 : decode cX12_init 224 = .ok (.aload_n 0, 1) := by decide +kernel
theorem dX12_init_225 : decode cX12_init 225 = .ok (.bipush 30, 2) := by decide +kernel
theorem dX12_init_227 : decode cX12_init 227 = .ok (.newarray .boolean, 2) := by decide +kernel
theorem dX12_init_229 : decode cX12_init 229 = .ok (.putfield 89, 3) := by decide +kernel
theorem dX12_init_232 : decode cX12_init 232 = .ok (.aload_n 0, 1) := by decide +kernel
theorem dX12_init_233 : decode cX12_init 233 = .ok (.bipush 30, 2) := by decide +kernel
theorem dX12_init_235 : decode cX12_init 235 = .ok (.newarray .boolean, 2) := by decide +kernel
theorem dX12_init_237 : decode cX12_init 237 = .ok (.putfield 92, 3) := by decide +kernel
theorem dX12_init_240 : decode cX12_init 240 = .ok (.aload_n 0, 1) := by decide +kernel
theorem dX12_init_241 : decode cX12_init 241 = .ok (.bipush 30, 2) := by decide +kernel
theorem dX12_init_243 : decode cX12_init 243 = .ok (.newarray .boolean, 2) := by decide +kernel
theorem dX12_init_245 : decode cX12_init 245 = .ok (.putfield 95, 3) := by decide +kernel
theorem dX12_init_248 : decode cX12_init 248 = .ok (.aload_n 0, 1) := by decide +kernel
theorem dX12_init_249 : decode cX12_init 249 = .ok (.bipush 30, 2) := by decide +kernel
theorem dX12_init_251 : decode cX12_init 251 = .ok (.newarray .boolean, 2) := by decide +kernel
theorem dX12_init_253 : decode cX12_init 253 = .ok (.putfield 98, 3) := by decide +kernel
theorem dX12_init_256 : decode cX12_init 256 = .ok (.aload_n 0, 1) := by decide +kernel
theorem dX12_init_257 : decode cX12_init 257 = .ok (.bipush 30, 2) := by decide +kernel
theorem dX12_init_259 : decode cX12_init 259 = .ok (.newarray .boolean, 2) := by decide +kernel
theorem dX12_init_261 : decode cX12_init 261 = .ok (.putfield 101, 3) := by decide +kernel
theorem dX12_init_264 : decode cX12_init 264 = .ok (.aload_n 0, 1) := by decide +kernel
theorem dX12_init_265 : decode cX12_init 265 = .ok (.bipush 30, 2) := by decide +kernel
theorem dX12_init_267 : decode cX12_init 267 = .ok (.newarray .boolean, 2) := by decide +kernel
theorem dX12_init_269 : decode cX12_init 269 = .ok (.putfield 104, 3) := by decide +kernel
theorem dX12_init_272 : decode cX12_init 272 = .ok (.aload_n 0, 1) := by decide +kernel
theorem dX12_init_273 : decode cX12_init 273 = .ok (.sipush 9030, 3) := by decide +kernel
theorem dX12_init_276 : decode cX12_init 276 = .ok (.newarray .byte, 2) := by decide +kernel
theorem dX12_init_278 : decode cX12_init 278 = .ok (.putfield 107, 3) := by decide +kernel
theorem dX12_init_281 : decode cX12_init 281 = .ok (.aload_n 0, 1) := by decide +kernel
theorem dX12_init_282 : decode cX12_init 282 = .ok (.sipush 9030, 3) := by decide +kernel
theorem dX12_init_285 : decode cX12_init 285 = .ok (.newarray .byte, 2) := by decide +kernel
theorem dX12_init_287 : decode cX12_init 287 = .ok (.putfield 111, 3) := by decide +kernel
theorem dX12_init_290 : decode cX12_init 290 = .ok (.aload_n 0, 1) := by decide +kernel
theorem dX12_init_291 : decode cX12_init 291 = .ok (.sipush 9030, 3) := by decide +kernel
theorem dX12_init_294 : decode cX12_init 294 = .ok (.newarray .byte, 2) := by decide +kernel
theorem dX12_init_296 : decode cX12_init 296 = .ok (.putfield 114, 3) := by decide +kernel
theorem dX12_init_299 : decode cX12_init 299 = .ok (.aload_n 0, 1) := by decide +kernel
theorem dX12_init_300 : decode cX12_init 300 = .ok (.sipush 300, 3) := by decide +kernel
theorem dX12_init_303 : decode cX12_init 303 = .ok (.newarray .int, 2) := by decide +kernel
theorem dX12_init_305 : decode cX12_init 305 = .ok (.putfield 117, 3) := by decide +kernel
theorem dX12_init_308 : decode cX12_init 308 = .ok (.aload_n 0, 1) := by decide +kernel
theorem dX12_init_309 : decode cX12_init 309 = .ok (.sipush 900, 3) := by decide +kernel
theorem dX12_init_312 : decode cX12_init 312 = .ok (.newarray .int, 2) := by decide +kernel
theorem dX12_init_314 : decode cX12_init 314 = .ok (.putfield 120, 3) := by decide +kernel
theorem dX12_init_317 : decode cX12_init 317 = .ok (.aload_n 0, 1) := by decide +kernel
theorem dX12_init_318 : decode cX12_init 318 = .ok (.sipush 900, 3) := by decide +kernel
theorem dX12_init_321 : decode cX12_init 321 = .ok (.newarray .int, 2) := by decide +kernel
theorem dX12_init_323 : decode cX12_init 323 = .ok (.putfield 123, 3) := by decide +kernel
theorem dX12_init_326 : decode cX12_init 326 = .ok (.aload_n 0, 1) := by decide +kernel
theorem dX12_init_327 : decode cX12_init 327 = .ok (.bipush 30, 2) := by decide +kernel
theorem dX12_init_329 : decode cX12_init 329 = .ok (.newarray .int, 2) := by decide +kernel
theorem dX12_init_331 : decode cX12_init 331 = .ok (.putfield 126, 3) := by decide +kernel
theorem dX12_init_334 : decode cX12_init 334 = .ok (.aload_n 0, 1) := by decide +kernel
theorem dX12_init_335 : decode cX12_init 335 = .ok (.bipush 30, 2) := by decide +kernel
theorem dX12_init_337 : decode cX12_init 337 = .ok (.newarray .int, 2) := by decide +kernel
theorem dX12_init_339 : decode cX12_init 339 = .ok (.putfield 129, 3) := by decide +kernel
theorem dX12_init_342 : decode cX12_init 342 = .ok (.aload_n 0, 1) := by decide +kernel
theorem dX12_init_343 : decode cX12_init 343 = .ok (.sipush 360, 3) := by decide +kernel
theorem dX12_init_346 : decode cX12_init 346 = .ok (.newarray .long, 2) := by decide +kernel
theorem dX12_init_348 : decode cX12_init 348 = .ok (.putfield 132, 3) := by decide +kernel
theorem dX12_init_351 : decode cX12_init 351 = .ok (.aload_n 0, 1) := by decide +kernel
theorem dX12_init_352 : decode cX12_init 352 = .ok (.bipush 30, 2) := by decide +kernel
theorem dX12_init_354 : decode cX12_init 354 = .ok (.newarray .boolean, 2) := by decide +kernel
theorem dX12_init_356 : decode cX12_init 356 = .ok (.putfield 136, 3) := by decide +kernel
theorem dX12_init_359 : decode cX12_init 359 = .ok (.aload_n 0, 1) := by decide +kernel
theorem dX12_init_360 : decode cX12_init 360 = .ok (.bipush 10, 2) := by decide +kernel
theorem dX12_init_362 : decode cX12_init 362 = .ok (.newarray .int, 2) := by decide +kernel
theorem dX12_init_364 : decode cX12_init 364 = .ok (.putfield 139, 3) := by decide +kernel
theorem dX12_init_367 : decode cX12_init 367 = .ok (.aload_n 0, 1) := by decide +kernel
theorem dX12_init_368 : decode cX12_init 368 = .ok (.bipush 10, 2) := by decide +kernel
theorem dX12_init_370 : decode cX12_init 370 = .ok (.newarray .int, 2) := by decide +kernel
theorem dX12_init_372 : decode cX12_init 372 = .ok (.putfield 142, 3) := by decide +kernel
theorem dX12_init_375 : decode cX12_init 375 = .ok (.aload_n 0, 1) := by decide +kernel
theorem dX12_init_376 : decode cX12_init 376 = .ok (.bipush 120, 2) := by decide +kernel
theorem dX12_init_378 : decode cX12_init 378 = .ok (.newarray .int, 2) := by decide +kernel
theorem dX12_init_380 : decode cX12_init 380 = .ok (.putfield 145, 3) := by decide +kernel
theorem dX12_init_383 : decode cX12_init 383 = .ok (.aload_n 0, 1) := by decide +kernel
theorem dX12_init_384 : decode cX12_init 384 = .ok (.bipush 12, 2) := by decide +kernel
theorem dX12_init_386 : decode cX12_init 386 = .ok (.newarray .long, 2) := by decide +kernel
theorem dX12_init_388 : decode cX12_init 388 = .ok (.putfield 148, 3) := by decide +kernel
theorem dX12_init_391 : decode cX12_init 391 = .ok (.aload_n 0, 1) := by decide +kernel
theorem dX12_init_392 : decode cX12_init 392 = .ok (.getfield 13, 3) := by decide +kernel
theorem dX12_init_395 : decode cX12_init 395 = .ok (.iconst 0, 1) := by decide +kernel
theorem dX12_init_396 : decode cX12_init 396 = .ok (.bipush (-9), 2) := by decide +kernel
theorem dX12_init_398 : decode cX12_init 398 = .ok (.iastore, 1) := by decide +kernel
theorem dX12_init_399 : decode cX12_init 399 = .ok (.aload_n 0, 1) := by decide +kernel
theorem dX12_init_400 : decode cX12_init 400 = .ok (.getfield 13, 3) := by decide +kernel
theorem dX12_init_403 : decode cX12_init 403 = .ok (.iconst 1, 1) := by decide +kernel
theorem dX12_init_404 : decode cX12_init 404 = .ok (.bipush (-9), 2) := by decide +kernel
theorem dX12_init_406 : decode cX12_init 406 = .ok (.iastore, 1) := by decide +kernel
theorem dX12_init_407 : decode cX12_init 407 = .ok (.iconst 2, 1) := by decide +kernel
theorem dX12_init_408 : decode cX12_init 408 = .ok (.istore_n 1, 1) := by decide +kernel
theorem dX12_init_409 : decode cX12_init 409 = .ok (.iload_n 1, 1) := by decide +kernel
theorem dX12_init_410 : decode cX12_init 410 = .ok (.bipush 6, 2) := by decide +kernel
theorem dX12_init_412 : decode cX12_init 412 = .ok (.if_icmp .ge 16, 3) := by decide +kernel
theorem dX12_init_415 : decode cX12_init 415 = .ok (.aload_n 0, 1) := by decide +kernel
theorem dX12_init_416 : decode cX12_init 416 = .ok (.getfield 13, 3) := by decide +kernel
theorem dX12_init_419 : decode cX12_init 419 = .ok (.iload_n 1, 1) := by decide +kernel
theorem dX12_init_420 : decode cX12_init 420 = .ok (.iconst 1, 1) := by decide +kernel
theorem dX12_init_421 : decode cX12_init 421 = .ok (.iastore, 1) := by decide +kernel
theorem dX12_init_422 : decode cX12_init 422 = .ok (.iinc 1 1, 3) := by decide +kernel
theorem dX12_init_425 : decode cX12_init 425 = .ok (.goto (-16), 3) := by decide +kernel
theorem dX12_init_428 : decode cX12_init 428 = .ok (.aload_n 0, 1) := by decide +kernel
theorem dX12_init_429 : decode cX12_init 429 = .ok (.bipush 6, 2) := by decide +kernel
theorem dX12_init_431 : decode cX12_init 431 = .ok (.putfield 151, 3) := by decide +kernel
theorem dX12_init_434 : decode cX12_init 434 = .ok (.iconst 0, 1) := by decide +kernel
theorem dX12_init_435 : decode cX12_init 435 = .ok (.istore_n 1, 1) := by decide +kernel
theorem dX12_init_436 : decode cX12_init 436 = .ok (.iload_n 1, 1) := by decide +kernel
theorem dX12_init_437 : decode cX12_init 437 = .ok (.sipush 144, 3) := by decide +kernel
theorem dX12_init_440 : decode cX12_init 440 = .ok (.if_icmp .ge 17, 3) := by decide +kernel
theorem dX12_init_443 : decode cX12_init 443 = .ok (.aload_n 0, 1) := by decide +kernel
theorem dX12_init_444 : decode cX12_init 444 = .ok (.getfield 16, 3) := by decide +kernel
theorem dX12_init_447 : decode cX12_init 447 = .ok (.iload_n 1, 1) := by decide +kernel
theorem dX12_init_448 : decode cX12_init 448 = .ok (.bipush (-9), 2) := by decide +kernel
theorem dX12_init_450 : decode cX12_init 450 = .ok (.iastore, 1) := by decide +kernel
theorem dX12_init_451 : decode cX12_init 451 = .ok (.iinc 1 1, 3) := by decide +kernel
theorem dX12_init_454 : decode cX12_init 454 = .ok (.goto (-18), 3) := by decide +kernel
theorem dX12_init_457 : decode cX12_init 457 = .ok (.aload_n 0, 1) := by decide +kernel
theorem dX12_init_458 : decode cX12_init 458 = .ok (.bipush (-9), 2) := by decide +kernel
theorem dX12_init_460 : decode cX12_init 460 = .ok (.putfield 155, 3) := by decide +kernel
theorem dX12_init_463 : decode cX12_init 463 = .ok (.aload_n 0, 1) := by decide +kernel
theorem dX12_init_464 : decode cX12_init 464 = .ok (.bipush (-9), 2) := by decide +kernel
theorem dX12_init_466 : decode cX12_init 466 = .ok (.putfield 158, 3) := by decide +kernel
theorem dX12_init_469 : decode cX12_init 469 = .ok (.return_, 1) := by decide +kernel
theorem dX12_in_0 : decode cX12_in 0 = .ok (.lload_n 0, 1) := by decide +kernel
theorem dX12_in_1 : decode cX12_in 1 = .ok (.lload_n 2, 1) := by decide +kernel
theorem dX12_in_2 : decode cX12_in 2 = .ok (.lcmp, 1) := by decide +kernel
theorem dX12_in_3 : decode cX12_in 3 = .ok (.ifCond .lt 14, 3) := by decide +kernel
theorem dX12_in_6 : decode cX12_in 6 = .ok (.lload_n 0, 1) := by decide +kernel
theorem dX12_in_7 : decode cX12_in 7 = .ok (.lload 4, 2) := by decide +kernel
theorem dX12_in_9 : decode cX12_in 9 = .ok (.lcmp, 1) := by decide +kernel
theorem dX12_in_10 : decode cX12_in 10 = .ok (.ifCond .gt 7, 3) := by decide +kernel
theorem dX12_in_13 : decode cX12_in 13 = .ok (.iconst 1, 1) := by decide +kernel
theorem dX12_in_14 : decode cX12_in 14 = .ok (.goto 4, 3) := by decide +kernel
theorem dX12_in_17 : decode cX12_in 17 = .ok (.iconst 0, 1) := by decide +kernel
theorem dX12_in_18 : decode cX12_in 18 = .ok (.ireturn, 1) := by decide +kernel
theorem dX12_meets_0 : decode cX12_meets 0 = .ok (.aload_n 0, 1) := by decide +kernel
theorem dX12_meets_1 : decode cX12_meets 1 = .ok (.iload_n 1, 1) := by decide +kernel
theorem dX12_meets_2 : decode cX12_meets 2 = .ok (.putfield 161, 3) := by decide +kernel
theorem dX12_meets_5 : decode cX12_meets 5 = .ok (.aload_n 0, 1) := by decide +kernel
theorem dX12_meets_6 : decode cX12_meets 6 = .ok (.getfield 7, 3) := by decide +kernel
theorem dX12_meets_9 : decode cX12_meets 9 = .ok (.iload_n 1, 1) := by decide +kernel
theorem dX12_meets_10 : decode cX12_meets 10 = .ok (.dup2, 1) := by decide +kernel
theorem dX12_meets_11 : decode cX12_meets 11 = .ok (.iaload, 1) := by decide +kernel
theorem dX12_meets_12 : decode cX12_meets 12 = .ok (.iconst 1, 1) := by decide +kernel
theorem dX12_meets_13 : decode cX12_meets 13 = .ok (.iadd, 1) := by decide +kernel
theorem dX12_meets_14 : decode cX12_meets 14 = .ok (.iastore, 1) := by decide +kernel
theorem dX12_meets_15 : decode cX12_meets 15 = .ok (.bipush (-3), 2) := by decide +kernel
theorem dX12_meets_17 : decode cX12_meets 17 = .ok (.ireturn, 1) := by decide +kernel
theorem dX12_finding_0 : decode cX12_finding 0 = .ok (.aload_n 0, 1) := by decide +kernel
theorem dX12_finding_1 : decode cX12_finding 1 = .ok (.getfield 161, 3) := by decide +kernel
theorem dX12_finding_4 : decode cX12_finding 4 = .ok (.ireturn, 1) := by decide +kernel
theorem dX12_findings_0 : decode cX12_findings 0 = .ok (.iload_n 1, 1) := by decide +kernel
theorem dX12_findings_1 : decode cX12_findings 1 = .ok (.i2l, 1) := by decide +kernel
theorem dX12_findings_2 : decode cX12_findings 2 = .ok (.lconst 1, 1) := by decide +kernel
theorem dX12_findings_3 : decode cX12_findings 3 = .ok (.ldc2_w 164, 3) := by decide +kernel
theorem dX12_findings_6 : decode cX12_findings 6 = .ok (.invokestatic 166, 3) := by decide +kernel
theorem dX12_findings_9 : decode cX12_findings 9 = .ok (.ifCond .eq 12, 3) := by decide +kernel
theorem dX12_findings_12 : decode cX12_findings 12 = .ok (.aload_n 0, 1) := by decide +kernel
theorem dX12_findings_13 : decode cX12_findings 13 = .ok (.getfield 7, 3) := by decide +kernel
theorem dX12_findings_16 : decode cX12_findings 16 = .ok (.iload_n 1, 1) := by decide +kernel
theorem dX12_findings_17 : decode cX12_findings 17 = .ok (.iaload, 1) := by decide +kernel
theorem dX12_findings_18 : decode cX12_findings 18 = .ok (.goto 4, 3) := by decide +kernel
theorem dX12_findings_21 : decode cX12_findings 21 = .ok (.iconst (-1), 1) := by decide +kernel
theorem dX12_findings_22 : decode cX12_findings 22 = .ok (.ireturn, 1) := by decide +kernel
theorem dX12_kind_0 : decode cX12_kind 0 = .ok (.iload_n 1, 1) := by decide +kernel
theorem dX12_kind_1 : decode cX12_kind 1 = .ok (.i2l, 1) := by decide +kernel
theorem dX12_kind_2 : decode cX12_kind 2 = .ok (.lconst 0, 1) := by decide +kernel
theorem dX12_kind_3 : decode cX12_kind 3 = .ok (.aload_n 0, 1) := by decide +kernel
theorem dX12_kind_4 : decode cX12_kind 4 = .ok (.getfield 151, 3) := by decide +kernel
theorem dX12_kind_7 : decode cX12_kind 7 = .ok (.iconst 1, 1) := by decide +kernel
theorem dX12_kind_8 : decode cX12_kind 8 = .ok (.isub, 1) := by decide +kernel
theorem dX12_kind_9 : decode cX12_kind 9 = .ok (.i2l, 1) := by decide +kernel
theorem dX12_kind_10 : decode cX12_kind 10 = .ok (.invokestatic 166, 3) := by decide +kernel
theorem dX12_kind_13 : decode cX12_kind 13 = .ok (.ifCond .ne 5, 3) := by decide +kernel
theorem dX12_kind_16 : decode cX12_kind 16 = .ok (.iconst (-1), 1) := by decide +kernel
theorem dX12_kind_17 : decode cX12_kind 17 = .ok (.ireturn, 1) := by decide +kernel
theorem dX12_kind_18 : decode cX12_kind 18 = .ok (.aload_n 0, 1) := by decide +kernel
theorem dX12_kind_19 : decode cX12_kind 19 = .ok (.getfield 151, 3) := by decide +kernel
theorem dX12_kind_22 : decode cX12_kind 22 = .ok (.bipush 24, 2) := by decide +kernel
theorem dX12_kind_24 : decode cX12_kind 24 = .ok (.if_icmp .ne 6, 3) := by decide +kernel
theorem dX12_kind_30 : decode cX12_kind 30 = .ok (.aload_n 0, 1) := by decide +kernel
theorem dX12_kind_31 : decode cX12_kind 31 = .ok (.getfield 13, 3) := by decide +kernel
theorem dX12_kind_34 : decode cX12_kind 34 = .ok (.aload_n 0, 1) := by decide +kernel
theorem dX12_kind_35 : decode cX12_kind 35 = .ok (.getfield 151, 3) := by decide +kernel
theorem dX12_kind_38 : decode cX12_kind 38 = .ok (.iload_n 1, 1) := by decide +kernel
theorem dX12_kind_39 : decode cX12_kind 39 = .ok (.iastore, 1) := by decide +kernel
theorem dX12_kind_40 : decode cX12_kind 40 = .ok (.aload_n 0, 1) := by decide +kernel
theorem dX12_kind_41 : decode cX12_kind 41 = .ok (.dup, 1) := by decide +kernel
theorem dX12_kind_42 : decode cX12_kind 42 = .ok (.getfield 151, 3) := by decide +kernel
theorem dX12_kind_45 : decode cX12_kind 45 = .ok (.iconst 1, 1) := by decide +kernel
theorem dX12_kind_46 : decode cX12_kind 46 = .ok (.iadd, 1) := by decide +kernel
theorem dX12_kind_47 : decode cX12_kind 47 = .ok (.putfield 151, 3) := by decide +kernel
theorem dX12_kind_50 : decode cX12_kind 50 = .ok (.aload_n 0, 1) := by decide +kernel
theorem dX12_kind_51 : decode cX12_kind 51 = .ok (.getfield 151, 3) := by decide +kernel
theorem dX12_kind_54 : decode cX12_kind 54 = .ok (.iconst 1, 1) := by decide +kernel
theorem dX12_kind_55 : decode cX12_kind 55 = .ok (.isub, 1) := by decide +kernel
theorem dX12_kind_56 : decode cX12_kind 56 = .ok (.ireturn, 1) := by decide +kernel
theorem dX12_standard_0 : decode cX12_standard 0 = .ok (.iload_n 1, 1) := by decide +kernel
theorem dX12_standard_1 : decode cX12_standard 1 = .ok (.i2l, 1) := by decide +kernel
theorem dX12_standard_2 : decode cX12_standard 2 = .ok (.lconst 0, 1) := by decide +kernel
theorem dX12_standard_3 : decode cX12_standard 3 = .ok (.aload_n 0, 1) := by decide +kernel
theorem dX12_standard_4 : decode cX12_standard 4 = .ok (.getfield 151, 3) := by decide +kernel
theorem dX12_standard_7 : decode cX12_standard 7 = .ok (.iconst 1, 1) := by decide +kernel
theorem dX12_standard_8 : decode cX12_standard 8 = .ok (.isub, 1) := by decide +kernel
theorem dX12_standard_9 : decode cX12_standard 9 = .ok (.i2l, 1) := by decide +kernel
theorem dX12_standard_10 : decode cX12_standard 10 = .ok (.invokestatic 166, 3) := by decide +kernel
theorem dX12_standard_13 : decode cX12_standard 13 = .ok (.ifCond .eq 31, 3) := by decide +kernel
theorem dX12_standard_16 : decode cX12_standard 16 = .ok (.iload_n 2, 1) := by decide +kernel
theorem dX12_standard_17 : decode cX12_standard 17 = .ok (.i2l, 1) := by decide +kernel
theorem dX12_standard_18 : decode cX12_standard 18 = .ok (.lconst 0, 1) := by decide +kernel
theorem dX12_standard_19 : decode cX12_standard 19 = .ok (.ldc2_w 170, 3) := by decide +kernel
theorem dX12_standard_22 : decode cX12_standard 22 = .ok (.invokestatic 166, 3) := by decide +kernel
theorem dX12_standard_25 : decode cX12_standard 25 = .ok (.ifCond .eq 19, 3) := by decide +kernel
theorem dX12_standard_28 : decode cX12_standard 28 = .ok (.iload_n 3, 1) := by decide +kernel
theorem dX12_standard_29 : decode cX12_standard 29 = .ok (.i2l, 1) := by decide +kernel
theorem dX12_standard_30 : decode cX12_standard 30 = .ok (.lconst 0, 1) := by decide +kernel
theorem dX12_standard_31 : decode cX12_standard 31 = .ok (.lconst 1, 1) := by decide +kernel
theorem dX12_standard_32 : decode cX12_standard 32 = .ok (.invokestatic 166, 3) := by decide +kernel
theorem dX12_standard_35 : decode cX12_standard 35 = .ok (.ifCond .ne 11, 3) := by decide +kernel
theorem dX12_standard_38 : decode cX12_standard 38 = .ok (.iload_n 3, 1) := by decide +kernel
theorem dX12_standard_39 : decode cX12_standard 39 = .ok (.bipush (-9), 2) := by decide +kernel
theorem dX12_standard_41 : decode cX12_standard 41 = .ok (.if_icmp .eq 5, 3) := by decide +kernel
theorem dX12_standard_44 : decode cX12_standard 44 = .ok (.iconst (-1), 1) := by decide +kernel
theorem dX12_standard_45 : decode cX12_standard 45 = .ok (.ireturn, 1) := by decide +kernel
theorem dX12_standard_46 : decode cX12_standard 46 = .ok (.aload_n 0, 1) := by decide +kernel
theorem dX12_standard_47 : decode cX12_standard 47 = .ok (.getfield 16, 3) := by decide +kernel
theorem dX12_standard_50 : decode cX12_standard 50 = .ok (.bipush 6, 2) := by decide +kernel
theorem dX12_standard_52 : decode cX12_standard 52 = .ok (.iload_n 1, 1) := by decide +kernel
theorem dX12_standard_53 : decode cX12_standard 53 = .ok (.imul, 1) := by decide +kernel
theorem dX12_standard_54 : decode cX12_standard 54 = .ok (.iload_n 2, 1) := by decide +kernel
theorem dX12_standard_55 : decode cX12_standard 55 = .ok (.iadd, 1) := by decide +kernel
theorem dX12_standard_56 : decode cX12_standard 56 = .ok (.iaload, 1) := by decide +kernel
theorem dX12_standard_57 : decode cX12_standard 57 = .ok (.istore 4, 2) := by decide +kernel
theorem dX12_standard_59 : decode cX12_standard 59 = .ok (.aload_n 0, 1) := by decide +kernel
theorem dX12_standard_60 : decode cX12_standard 60 = .ok (.getfield 16, 3) := by decide +kernel
theorem dX12_standard_63 : decode cX12_standard 63 = .ok (.bipush 6, 2) := by decide +kernel
theorem dX12_standard_65 : decode cX12_standard 65 = .ok (.iload_n 1, 1) := by decide +kernel
theorem dX12_standard_66 : decode cX12_standard 66 = .ok (.imul, 1) := by decide +kernel
theorem dX12_standard_67 : decode cX12_standard 67 = .ok (.iload_n 2, 1) := by decide +kernel
theorem dX12_standard_68 : decode cX12_standard 68 = .ok (.iadd, 1) := by decide +kernel
theorem dX12_standard_69 : decode cX12_standard 69 = .ok (.iload_n 3, 1) := by decide +kernel
theorem dX12_standard_70 : decode cX12_standard 70 = .ok (.iastore, 1) := by decide +kernel
theorem dX12_standard_71 : decode cX12_standard 71 = .ok (.aload_n 0, 1) := by decide +kernel
theorem dX12_standard_72 : decode cX12_standard 72 = .ok (.invokevirtual 172, 3) := by decide +kernel
theorem dX12_standard_75 : decode cX12_standard 75 = .ok (.iload 4, 2) := by decide +kernel
theorem dX12_standard_77 : decode cX12_standard 77 = .ok (.ireturn, 1) := by decide +kernel
theorem dX12_make_0 : decode cX12_make 0 = .ok (.iload_n 1, 1) := by decide +kernel
theorem dX12_make_1 : decode cX12_make 1 = .ok (.i2l, 1) := by decide +kernel
theorem dX12_make_2 : decode cX12_make 2 = .ok (.lconst 0, 1) := by decide +kernel
theorem dX12_make_3 : decode cX12_make 3 = .ok (.aload_n 0, 1) := by decide +kernel
theorem dX12_make_4 : decode cX12_make 4 = .ok (.getfield 151, 3) := by decide +kernel
theorem dX12_make_7 : decode cX12_make 7 = .ok (.iconst 1, 1) := by decide +kernel
theorem dX12_make_8 : decode cX12_make 8 = .ok (.isub, 1) := by decide +kernel
theorem dX12_make_9 : decode cX12_make 9 = .ok (.i2l, 1) := by decide +kernel
theorem dX12_make_10 : decode cX12_make 10 = .ok (.invokestatic 166, 3) := by decide +kernel
theorem dX12_make_13 : decode cX12_make 13 = .ok (.ifCond .eq 15, 3) := by decide +kernel
theorem dX12_make_16 : decode cX12_make 16 = .ok (.iload_n 2, 1) := by decide +kernel
theorem dX12_make_17 : decode cX12_make 17 = .ok (.i2l, 1) := by decide +kernel
theorem dX12_make_18 : decode cX12_make 18 = .ok (.lconst 0, 1) := by decide +kernel
theorem dX12_make_19 : decode cX12_make 19 = .ok (.ldc2_w 175, 3) := by decide +kernel
theorem dX12_make_22 : decode cX12_make 22 = .ok (.invokestatic 166, 3) := by decide +kernel
theorem dX12_make_25 : decode cX12_make 25 = .ok (.ifCond .ne 5, 3) := by decide +kernel
theorem dX12_make_28 : decode cX12_make 28 = .ok (.iconst (-1), 1) := by decide +kernel
theorem dX12_make_29 : decode cX12_make 29 = .ok (.ireturn, 1) := by decide +kernel
theorem dX12_make_30 : decode cX12_make 30 = .ok (.aload_n 0, 1) := by decide +kernel
theorem dX12_make_31 : decode cX12_make 31 = .ok (.getfield 177, 3) := by decide +kernel
theorem dX12_make_34 : decode cX12_make 34 = .ok (.bipush 30, 2) := by decide +kernel
