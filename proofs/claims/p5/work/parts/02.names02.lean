theorem dX1_init_123 : decode cX1_init 123 = .ok (.invokestatic 56, 3) := by decide +kernel
theorem dX1_init_126 : decode cX1_init 126 = .ok (.aload_n 0, 1) := by decide +kernel
theorem dX1_init_127 : decode cX1_init 127 = .ok (.getfield 34, 3) := by decide +kernel
theorem dX1_init_130 : decode cX1_init 130 = .ok (.bipush (-9), 2) := by decide +kernel
theorem dX1_init_132 : decode cX1_init 132 = .ok (.invokestatic 56, 3) := by decide +kernel
theorem dX1_init_135 : decode cX1_init 135 = .ok (.aload_n 0, 1) := by decide +kernel
theorem dX1_init_136 : decode cX1_init 136 = .ok (.getfield 37, 3) := by decide +kernel
theorem dX1_init_139 : decode cX1_init 139 = .ok (.bipush (-9), 2) := by decide +kernel
theorem dX1_init_141 : decode cX1_init 141 = .ok (.invokestatic 56, 3) := by decide +kernel
theorem dX1_init_144 : decode cX1_init 144 = .ok (.return_, 1) := by decide +kernel
theorem dX1_isWellFormed_0 : decode cX1_isWellFormed 0 = .ok (.iload_n 1, 1) := by decide +kernel
theorem dX1_isWellFormed_1 : decode cX1_isWellFormed 1 = .ok (.ifCond .lt 20, 3) := by decide +kernel
theorem dX1_isWellFormed_4 : decode cX1_isWellFormed 4 = .ok (.iload_n 1, 1) := by decide +kernel
theorem dX1_isWellFormed_5 : decode cX1_isWellFormed 5 = .ok (.bipush 7, 2) := by decide +kernel
theorem dX1_isWellFormed_7 : decode cX1_isWellFormed 7 = .ok (.if_icmp .gt 14, 3) := by decide +kernel
theorem dX1_isWellFormed_10 : decode cX1_isWellFormed 10 = .ok (.aload_n 0, 1) := by decide +kernel
theorem dX1_isWellFormed_11 : decode cX1_isWellFormed 11 = .ok (.getfield 43, 3) := by decide +kernel
theorem dX1_isWellFormed_14 : decode cX1_isWellFormed 14 = .ok (.iload_n 2, 1) := by decide +kernel
theorem dX1_isWellFormed_15 : decode cX1_isWellFormed 15 = .ok (.invokevirtual 62, 3) := by decide +kernel
theorem dX1_isWellFormed_18 : decode cX1_isWellFormed 18 = .ok (.ifCond .ne 5, 3) := by decide +kernel
theorem dX1_isWellFormed_21 : decode cX1_isWellFormed 21 = .ok (.iconst 0, 1) := by decide +kernel
theorem dX1_isWellFormed_22 : decode cX1_isWellFormed 22 = .ok (.ireturn, 1) := by decide +kernel
theorem dX1_isWellFormed_23 : decode cX1_isWellFormed 23 = .ok (.iload_n 1, 1) := by decide +kernel
theorem dX1_isWellFormed_24 : decode cX1_isWellFormed 24 = .ok (.bipush 6, 2) := by decide +kernel
theorem dX1_isWellFormed_26 : decode cX1_isWellFormed 26 = .ok (.if_icmp .ne 29, 3) := by decide +kernel
theorem dX1_isWellFormed_29 : decode cX1_isWellFormed 29 = .ok (.iload_n 3, 1) := by decide +kernel
theorem dX1_isWellFormed_30 : decode cX1_isWellFormed 30 = .ok (.bipush 6, 2) := by decide +kernel
theorem dX1_isWellFormed_32 : decode cX1_isWellFormed 32 = .ok (.invokestatic 68, 3) := by decide +kernel
theorem dX1_isWellFormed_35 : decode cX1_isWellFormed 35 = .ok (.ifCond .eq 18, 3) := by decide +kernel
theorem dX1_isWellFormed_38 : decode cX1_isWellFormed 38 = .ok (.iload 4, 2) := by decide +kernel
theorem dX1_isWellFormed_40 : decode cX1_isWellFormed 40 = .ok (.ifCond .eq 9, 3) := by decide +kernel
theorem dX1_isWellFormed_43 : decode cX1_isWellFormed 43 = .ok (.iload 4, 2) := by decide +kernel
theorem dX1_isWellFormed_45 : decode cX1_isWellFormed 45 = .ok (.iconst 1, 1) := by decide +kernel
theorem dX1_isWellFormed_46 : decode cX1_isWellFormed 46 = .ok (.if_icmp .ne 7, 3) := by decide +kernel
theorem dX1_isWellFormed_49 : decode cX1_isWellFormed 49 = .ok (.iconst 1, 1) := by decide +kernel
theorem dX1_isWellFormed_50 : decode cX1_isWellFormed 50 = .ok (.goto 4, 3) := by decide +kernel
theorem dX1_isWellFormed_53 : decode cX1_isWellFormed 53 = .ok (.iconst 0, 1) := by decide +kernel
theorem dX1_isWellFormed_54 : decode cX1_isWellFormed 54 = .ok (.ireturn, 1) := by decide +kernel
theorem dX1_isWellFormed_55 : decode cX1_isWellFormed 55 = .ok (.aload_n 0, 1) := by decide +kernel
theorem dX1_isWellFormed_56 : decode cX1_isWellFormed 56 = .ok (.getfield 43, 3) := by decide +kernel
theorem dX1_isWellFormed_59 : decode cX1_isWellFormed 59 = .ok (.iload_n 3, 1) := by decide +kernel
theorem dX1_isWellFormed_60 : decode cX1_isWellFormed 60 = .ok (.invokevirtual 62, 3) := by decide +kernel
theorem dX1_isWellFormed_63 : decode cX1_isWellFormed 63 = .ok (.ifCond .eq 22, 3) := by decide +kernel
theorem dX1_isWellFormed_66 : decode cX1_isWellFormed 66 = .ok (.iload_n 1, 1) := by decide +kernel
theorem dX1_isWellFormed_67 : decode cX1_isWellFormed 67 = .ok (.iconst 5, 1) := by decide +kernel
theorem dX1_isWellFormed_68 : decode cX1_isWellFormed 68 = .ok (.if_icmp .ne 13, 3) := by decide +kernel
theorem dX1_isWellFormed_71 : decode cX1_isWellFormed 71 = .ok (.iload 4, 2) := by decide +kernel
theorem dX1_isWellFormed_73 : decode cX1_isWellFormed 73 = .ok (.bipush 10, 2) := by decide +kernel
theorem dX1_isWellFormed_75 : decode cX1_isWellFormed 75 = .ok (.invokestatic 68, 3) := by decide +kernel
theorem dX1_isWellFormed_78 : decode cX1_isWellFormed 78 = .ok (.ifCond .eq 7, 3) := by decide +kernel
theorem dX1_isWellFormed_81 : decode cX1_isWellFormed 81 = .ok (.iconst 1, 1) := by decide +kernel
theorem dX1_isWellFormed_82 : decode cX1_isWellFormed 82 = .ok (.goto 4, 3) := by decide +kernel
theorem dX1_isWellFormed_85 : decode cX1_isWellFormed 85 = .ok (.iconst 0, 1) := by decide +kernel
theorem dX1_isWellFormed_86 : decode cX1_isWellFormed 86 = .ok (.ireturn, 1) := by decide +kernel
theorem dX1_isFitting_0 : decode cX1_isFitting 0 = .ok (.aload_n 0, 1) := by decide +kernel
theorem dX1_isFitting_1 : decode cX1_isFitting 1 = .ok (.getfield 43, 3) := by decide +kernel
theorem dX1_isFitting_4 : decode cX1_isFitting 4 = .ok (.iload_n 3, 1) := by decide +kernel
theorem dX1_isFitting_5 : decode cX1_isFitting 5 = .ok (.invokevirtual 72, 3) := by decide +kernel
theorem dX1_isFitting_8 : decode cX1_isFitting 8 = .ok (.istore 4, 2) := by decide +kernel
theorem dX1_isFitting_10 : decode cX1_isFitting 10 = .ok (.iload_n 1, 1) := by decide +kernel
theorem dX1_isFitting_11 : decode cX1_isFitting 11 = .ok (.tableswitch 187 0 6 #[41, 71, 96, 96, 121, 145, 175], 41) := by decide +kernel
theorem dX1_isFitting_52 : decode cX1_isFitting 52 = .ok (.aload_n 0, 1) := by decide +kernel
theorem dX1_isFitting_53 : decode cX1_isFitting 53 = .ok (.getfield 43, 3) := by decide +kernel
theorem dX1_isFitting_56 : decode cX1_isFitting 56 = .ok (.iload_n 2, 1) := by decide +kernel
theorem dX1_isFitting_57 : decode cX1_isFitting 57 = .ok (.invokevirtual 76, 3) := by decide +kernel
theorem dX1_isFitting_60 : decode cX1_isFitting 60 = .ok (.ifCond .eq 18, 3) := by decide +kernel
theorem dX1_isFitting_63 : decode cX1_isFitting 63 = .ok (.iload 4, 2) := by decide +kernel
theorem dX1_isFitting_65 : decode cX1_isFitting 65 = .ok (.ifCond .eq 9, 3) := by decide +kernel
theorem dX1_isFitting_68 : decode cX1_isFitting 68 = .ok (.iload 4, 2) := by decide +kernel
theorem dX1_isFitting_70 : decode cX1_isFitting 70 = .ok (.iconst 3, 1) := by decide +kernel
theorem dX1_isFitting_71 : decode cX1_isFitting 71 = .ok (.if_icmp .ne 7, 3) := by decide +kernel
theorem dX1_isFitting_74 : decode cX1_isFitting 74 = .ok (.iconst 1, 1) := by decide +kernel
theorem dX1_isFitting_75 : decode cX1_isFitting 75 = .ok (.goto 150, 3) := by decide +kernel
theorem dX1_isFitting_78 : decode cX1_isFitting 78 = .ok (.iconst 0, 1) := by decide +kernel
theorem dX1_isFitting_79 : decode cX1_isFitting 79 = .ok (.goto 146, 3) := by decide +kernel
theorem dX1_isFitting_82 : decode cX1_isFitting 82 = .ok (.aload_n 0, 1) := by decide +kernel
theorem dX1_isFitting_83 : decode cX1_isFitting 83 = .ok (.getfield 43, 3) := by decide +kernel
theorem dX1_isFitting_86 : decode cX1_isFitting 86 = .ok (.iload_n 2, 1) := by decide +kernel
theorem dX1_isFitting_87 : decode cX1_isFitting 87 = .ok (.invokevirtual 76, 3) := by decide +kernel
theorem dX1_isFitting_90 : decode cX1_isFitting 90 = .ok (.ifCond .eq 13, 3) := by decide +kernel
theorem dX1_isFitting_93 : decode cX1_isFitting 93 = .ok (.iload 4, 2) := by decide +kernel
theorem dX1_isFitting_95 : decode cX1_isFitting 95 = .ok (.iconst 4, 1) := by decide +kernel
theorem dX1_isFitting_96 : decode cX1_isFitting 96 = .ok (.if_icmp .ne 7, 3) := by decide +kernel
theorem dX1_isFitting_99 : decode cX1_isFitting 99 = .ok (.iconst 1, 1) := by decide +kernel
theorem dX1_isFitting_100 : decode cX1_isFitting 100 = .ok (.goto 125, 3) := by decide +kernel
theorem dX1_isFitting_103 : decode cX1_isFitting 103 = .ok (.iconst 0, 1) := by decide +kernel
theorem dX1_isFitting_104 : decode cX1_isFitting 104 = .ok (.goto 121, 3) := by decide +kernel
theorem dX1_isFitting_107 : decode cX1_isFitting 107 = .ok (.aload_n 0, 1) := by decide +kernel
theorem dX1_isFitting_108 : decode cX1_isFitting 108 = .ok (.getfield 43, 3) := by decide +kernel
theorem dX1_isFitting_111 : decode cX1_isFitting 111 = .ok (.iload_n 2, 1) := by decide +kernel
theorem dX1_isFitting_112 : decode cX1_isFitting 112 = .ok (.invokevirtual 79, 3) := by decide +kernel
theorem dX1_isFitting_115 : decode cX1_isFitting 115 = .ok (.ifCond .eq 13, 3) := by decide +kernel
theorem dX1_isFitting_118 : decode cX1_isFitting 118 = .ok (.iload 4, 2) := by decide +kernel
theorem dX1_isFitting_120 : decode cX1_isFitting 120 = .ok (.iconst 5, 1) := by decide +kernel
theorem dX1_isFitting_121 : decode cX1_isFitting 121 = .ok (.if_icmp .ne 7, 3) := by decide +kernel
theorem dX1_isFitting_124 : decode cX1_isFitting 124 = .ok (.iconst 1, 1) := by decide +kernel
theorem dX1_isFitting_125 : decode cX1_isFitting 125 = .ok (.goto 100, 3) := by decide +kernel
theorem dX1_isFitting_128 : decode cX1_isFitting 128 = .ok (.iconst 0, 1) := by decide +kernel
theorem dX1_isFitting_129 : decode cX1_isFitting 129 = .ok (.goto 96, 3) := by decide +kernel
theorem dX1_isFitting_132 : decode cX1_isFitting 132 = .ok (.aload_n 0, 1) := by decide +kernel
theorem dX1_isFitting_133 : decode cX1_isFitting 133 = .ok (.getfield 43, 3) := by decide +kernel
theorem dX1_isFitting_136 : decode cX1_isFitting 136 = .ok (.iload_n 2, 1) := by decide +kernel
theorem dX1_isFitting_137 : decode cX1_isFitting 137 = .ok (.invokevirtual 79, 3) := by decide +kernel
theorem dX1_isFitting_140 : decode cX1_isFitting 140 = .ok (.ifCond .eq 12, 3) := by decide +kernel
theorem dX1_isFitting_143 : decode cX1_isFitting 143 = .ok (.iload 4, 2) := by decide +kernel
theorem dX1_isFitting_145 : decode cX1_isFitting 145 = .ok (.ifCond .eq 7, 3) := by decide +kernel
theorem dX1_isFitting_148 : decode cX1_isFitting 148 = .ok (.iconst 1, 1) := by decide +kernel
theorem dX1_isFitting_149 : decode cX1_isFitting 149 = .ok (.goto 76, 3) := by decide +kernel
theorem dX1_isFitting_152 : decode cX1_isFitting 152 = .ok (.iconst 0, 1) := by decide +kernel
theorem dX1_isFitting_153 : decode cX1_isFitting 153 = .ok (.goto 72, 3) := by decide +kernel
theorem dX1_isFitting_156 : decode cX1_isFitting 156 = .ok (.aload_n 0, 1) := by decide +kernel
theorem dX1_isFitting_157 : decode cX1_isFitting 157 = .ok (.getfield 43, 3) := by decide +kernel
theorem dX1_isFitting_160 : decode cX1_isFitting 160 = .ok (.iload_n 2, 1) := by decide +kernel
theorem dX1_isFitting_161 : decode cX1_isFitting 161 = .ok (.invokevirtual 72, 3) := by decide +kernel
theorem dX1_isFitting_164 : decode cX1_isFitting 164 = .ok (.ifCond .ne 18, 3) := by decide +kernel
theorem dX1_isFitting_167 : decode cX1_isFitting 167 = .ok (.iload 4, 2) := by decide +kernel
theorem dX1_isFitting_169 : decode cX1_isFitting 169 = .ok (.ifCond .eq 9, 3) := by decide +kernel
theorem dX1_isFitting_172 : decode cX1_isFitting 172 = .ok (.iload 4, 2) := by decide +kernel
theorem dX1_isFitting_174 : decode cX1_isFitting 174 = .ok (.iconst 2, 1) := by decide +kernel
theorem dX1_isFitting_175 : decode cX1_isFitting 175 = .ok (.if_icmp .ne 7, 3) := by decide +kernel
theorem dX1_isFitting_178 : decode cX1_isFitting 178 = .ok (.iconst 1, 1) := by decide +kernel
theorem dX1_isFitting_179 : decode cX1_isFitting 179 = .ok (.goto 46, 3) := by decide +kernel
theorem dX1_isFitting_182 : decode cX1_isFitting 182 = .ok (.iconst 0, 1) := by decide +kernel
theorem dX1_isFitting_183 : decode cX1_isFitting 183 = .ok (.goto 42, 3) := by decide +kernel
theorem dX1_isFitting_186 : decode cX1_isFitting 186 = .ok (.aload_n 0, 1) := by decide +kernel
theorem dX1_isFitting_187 : decode cX1_isFitting 187 = .ok (.getfield 43, 3) := by decide +kernel
theorem dX1_isFitting_190 : decode cX1_isFitting 190 = .ok (.iload_n 2, 1) := by decide +kernel
theorem dX1_isFitting_191 : decode cX1_isFitting 191 = .ok (.iload_n 3, 1) := by decide +kernel
theorem dX1_isFitting_192 : decode cX1_isFitting 192 = .ok (.invokevirtual 82, 3) := by decide +kernel
theorem dX1_isFitting_195 : decode cX1_isFitting 195 = .ok (.goto 30, 3) := by decide +kernel
theorem dX1_isFitting_198 : decode cX1_isFitting 198 = .ok (.aload_n 0, 1) := by decide +kernel
theorem dX1_isFitting_199 : decode cX1_isFitting 199 = .ok (.getfield 43, 3) := by decide +kernel
theorem dX1_isFitting_202 : decode cX1_isFitting 202 = .ok (.iload_n 2, 1) := by decide +kernel
theorem dX1_isFitting_203 : decode cX1_isFitting 203 = .ok (.invokevirtual 79, 3) := by decide +kernel
theorem dX1_isFitting_206 : decode cX1_isFitting 206 = .ok (.ifCond .eq 18, 3) := by decide +kernel
theorem dX1_isFitting_209 : decode cX1_isFitting 209 = .ok (.aload_n 0, 1) := by decide +kernel
theorem dX1_isFitting_210 : decode cX1_isFitting 210 = .ok (.getfield 43, 3) := by decide +kernel
theorem dX1_isFitting_213 : decode cX1_isFitting 213 = .ok (.iload_n 3, 1) := by decide +kernel
theorem dX1_isFitting_214 : decode cX1_isFitting 214 = .ok (.invokevirtual 85, 3) := by decide +kernel
theorem dX1_isFitting_217 : decode cX1_isFitting 217 = .ok (.ifCond .eq 7, 3) := by decide +kernel
theorem dX1_isFitting_220 : decode cX1_isFitting 220 = .ok (.iconst 1, 1) := by decide +kernel
theorem dX1_isFitting_221 : decode cX1_isFitting 221 = .ok (.goto 4, 3) := by decide +kernel
theorem dX1_isFitting_224 : decode cX1_isFitting 224 = .ok (.iconst 0, 1) := by decide +kernel
theorem dX1_isFitting_225 : decode cX1_isFitting 225 = .ok (.ireturn, 1) := by decide +kernel
theorem dX1_standingFor_0 : decode cX1_standingFor 0 = .ok (.iload_n 1, 1) := by decide +kernel
theorem dX1_standingFor_1 : decode cX1_standingFor 1 = .ok (.tableswitch 65 5 7 #[27, 42, 56], 27) := by decide +kernel
theorem dX1_standingFor_28 : decode cX1_standingFor 28 = .ok (.aload_n 0, 1) := by decide +kernel
theorem dX1_standingFor_29 : decode cX1_standingFor 29 = .ok (.getfield 31, 3) := by decide +kernel
theorem dX1_standingFor_32 : decode cX1_standingFor 32 = .ok (.iload_n 2, 1) := by decide +kernel
theorem dX1_standingFor_33 : decode cX1_standingFor 33 = .ok (.bipush 10, 2) := by decide +kernel
theorem dX1_standingFor_35 : decode cX1_standingFor 35 = .ok (.imul, 1) := by decide +kernel
theorem dX1_standingFor_36 : decode cX1_standingFor 36 = .ok (.iload 4, 2) := by decide +kernel
theorem dX1_standingFor_38 : decode cX1_standingFor 38 = .ok (.iadd, 1) := by decide +kernel
theorem dX1_standingFor_39 : decode cX1_standingFor 39 = .ok (.iaload, 1) := by decide +kernel
theorem dX1_standingFor_40 : decode cX1_standingFor 40 = .ok (.goto 32, 3) := by decide +kernel
theorem dX1_standingFor_43 : decode cX1_standingFor 43 = .ok (.aload_n 0, 1) := by decide +kernel
theorem dX1_standingFor_44 : decode cX1_standingFor 44 = .ok (.getfield 34, 3) := by decide +kernel
theorem dX1_standingFor_47 : decode cX1_standingFor 47 = .ok (.iload_n 2, 1) := by decide +kernel
theorem dX1_standingFor_48 : decode cX1_standingFor 48 = .ok (.bipush 6, 2) := by decide +kernel
theorem dX1_standingFor_50 : decode cX1_standingFor 50 = .ok (.imul, 1) := by decide +kernel
theorem dX1_standingFor_51 : decode cX1_standingFor 51 = .ok (.iload_n 3, 1) := by decide +kernel
theorem dX1_standingFor_52 : decode cX1_standingFor 52 = .ok (.iadd, 1) := by decide +kernel
theorem dX1_standingFor_53 : decode cX1_standingFor 53 = .ok (.iaload, 1) := by decide +kernel
theorem dX1_standingFor_54 : decode cX1_standingFor 54 = .ok (.goto 18, 3) := by decide +kernel
theorem dX1_standingFor_57 : decode cX1_standingFor 57 = .ok (.aload_n 0, 1) := by decide +kernel
theorem dX1_standingFor_58 : decode cX1_standingFor 58 = .ok (.getfield 37, 3) := by decide +kernel
theorem dX1_standingFor_61 : decode cX1_standingFor 61 = .ok (.iload_n 3, 1) := by decide +kernel
theorem dX1_standingFor_62 : decode cX1_standingFor 62 = .ok (.iaload, 1) := by decide +kernel
theorem dX1_standingFor_63 : decode cX1_standingFor 63 = .ok (.goto 9, 3) := by decide +kernel
theorem dX1_standingFor_66 : decode cX1_standingFor 66 = .ok (.aload_n 0, 1) := by decide +kernel
theorem dX1_standingFor_67 : decode cX1_standingFor 67 = .ok (.getfield 28, 3) := by decide +kernel
theorem dX1_standingFor_70 : decode cX1_standingFor 70 = .ok (.iload_n 2, 1) := by decide +kernel
theorem dX1_standingFor_71 : decode cX1_standingFor 71 = .ok (.iaload, 1) := by decide +kernel
theorem dX1_standingFor_72 : decode cX1_standingFor 72 = .ok (.ireturn, 1) := by decide +kernel
theorem dX1_findSame_0 : decode cX1_findSame 0 = .ok (.aload_n 0, 1) := by decide +kernel
theorem dX1_findSame_1 : decode cX1_findSame 1 = .ok (.iload_n 1, 1) := by decide +kernel
theorem dX1_findSame_2 : decode cX1_findSame 2 = .ok (.iload_n 2, 1) := by decide +kernel
theorem dX1_findSame_3 : decode cX1_findSame 3 = .ok (.iload_n 3, 1) := by decide +kernel
theorem dX1_findSame_4 : decode cX1_findSame 4 = .ok (.iload 4, 2) := by decide +kernel
theorem dX1_findSame_6 : decode cX1_findSame 6 = .ok (.invokevirtual 88, 3) := by decide +kernel
theorem dX1_findSame_9 : decode cX1_findSame 9 = .ok (.istore 5, 2) := by decide +kernel
theorem dX1_findSame_11 : decode cX1_findSame 11 = .ok (.iload 5, 2) := by decide +kernel
theorem dX1_findSame_13 : decode cX1_findSame 13 = .ok (.bipush (-9), 2) := by decide +kernel
theorem dX1_findSame_15 : decode cX1_findSame 15 = .ok (.if_icmp .eq 52, 3) := by decide +kernel
theorem dX1_findSame_18 : decode cX1_findSame 18 = .ok (.aload_n 0, 1) := by decide +kernel
theorem dX1_findSame_19 : decode cX1_findSame 19 = .ok (.getfield 9, 3) := by decide +kernel
theorem dX1_findSame_22 : decode cX1_findSame 22 = .ok (.iload 5, 2) := by decide +kernel
theorem dX1_findSame_24 : decode cX1_findSame 24 = .ok (.iaload, 1) := by decide +kernel
theorem dX1_findSame_25 : decode cX1_findSame 25 = .ok (.iload_n 1, 1) := by decide +kernel
theorem dX1_findSame_26 : decode cX1_findSame 26 = .ok (.if_icmp .ne 41, 3) := by decide +kernel
theorem dX1_findSame_29 : decode cX1_findSame 29 = .ok (.aload_n 0, 1) := by decide +kernel
theorem dX1_findSame_30 : decode cX1_findSame 30 = .ok (.getfield 15, 3) := by decide +kernel
theorem dX1_findSame_33 : decode cX1_findSame 33 = .ok (.iload 5, 2) := by decide +kernel
theorem dX1_findSame_35 : decode cX1_findSame 35 = .ok (.iaload, 1) := by decide +kernel
theorem dX1_findSame_36 : decode cX1_findSame 36 = .ok (.iload_n 2, 1) := by decide +kernel
theorem dX1_findSame_37 : decode cX1_findSame 37 = .ok (.if_icmp .ne 30, 3) := by decide +kernel
theorem dX1_findSame_40 : decode cX1_findSame 40 = .ok (.aload_n 0, 1) := by decide +kernel
theorem dX1_findSame_41 : decode cX1_findSame 41 = .ok (.getfield 18, 3) := by decide +kernel
theorem dX1_findSame_44 : decode cX1_findSame 44 = .ok (.iload 5, 2) := by decide +kernel
theorem dX1_findSame_46 : decode cX1_findSame 46 = .ok (.iaload, 1) := by decide +kernel
theorem dX1_findSame_47 : decode cX1_findSame 47 = .ok (.iload_n 3, 1) := by decide +kernel
theorem dX1_findSame_48 : decode cX1_findSame 48 = .ok (.if_icmp .ne 19, 3) := by decide +kernel
theorem dX1_findSame_51 : decode cX1_findSame 51 = .ok (.aload_n 0, 1) := by decide +kernel
theorem dX1_findSame_52 : decode cX1_findSame 52 = .ok (.getfield 21, 3) := by decide +kernel
theorem dX1_findSame_55 : decode cX1_findSame 55 = .ok (.iload 5, 2) := by decide +kernel
theorem dX1_findSame_57 : decode cX1_findSame 57 = .ok (.iaload, 1) := by decide +kernel
theorem dX1_findSame_58 : decode cX1_findSame 58 = .ok (.iload 4, 2) := by decide +kernel
theorem dX1_findSame_60 : decode cX1_findSame 60 = .ok (.if_icmp .ne 7, 3) := by decide +kernel
theorem dX1_findSame_63 : decode cX1_findSame 63 = .ok (.iconst 1, 1) := by decide +kernel
theorem dX1_findSame_64 : decode cX1_findSame 64 = .ok (.goto 4, 3) := by decide +kernel
theorem dX1_findSame_67 : decode cX1_findSame 67 = .ok (.iconst 0, 1) := by decide +kernel
theorem dX1_findSame_68 : decode cX1_findSame 68 = .ok (.istore 6, 2) := by decide +kernel
theorem dX1_findSame_70 : decode cX1_findSame 70 = .ok (.iload 6, 2) := by decide +kernel
theorem dX1_findSame_72 : decode cX1_findSame 72 = .ok (.ifCond .eq 8, 3) := by decide +kernel
theorem dX1_findSame_75 : decode cX1_findSame 75 = .ok (.iload 5, 2) := by decide +kernel
theorem dX1_findSame_77 : decode cX1_findSame 77 = .ok (.goto 5, 3) := by decide +kernel
theorem dX1_findSame_80 : decode cX1_findSame 80 = .ok (.bipush (-9), 2) := by decide +kernel
theorem dX1_findSame_82 : decode cX1_findSame 82 = .ok (.ireturn, 1) := by decide +kernel
theorem dX1_write_0 : decode cX1_write 0 = .ok (.aload_n 0, 1) := by decide +kernel
theorem dX1_write_1 : decode cX1_write 1 = .ok (.dup, 1) := by decide +kernel
theorem dX1_write_2 : decode cX1_write 2 = .ok (.getfield 92, 3) := by decide +kernel
theorem dX1_write_5 : decode cX1_write 5 = .ok (.dup_x1, 1) := by decide +kernel
theorem dX1_write_6 : decode cX1_write 6 = .ok (.iconst 1, 1) := by decide +kernel
theorem dX1_write_7 : decode cX1_write 7 = .ok (.iadd, 1) := by decide +kernel
theorem dX1_write_8 : decode cX1_write 8 = .ok (.putfield 92, 3) := by decide +kernel
theorem dX1_write_11 : decode cX1_write 11 = .ok (.istore 5, 2) := by decide +kernel
theorem dX1_write_13 : decode cX1_write 13 = .ok (.aload_n 0, 1) := by decide +kernel
theorem dX1_write_14 : decode cX1_write 14 = .ok (.getfield 9, 3) := by decide +kernel
theorem dX1_write_17 : decode cX1_write 17 = .ok (.iload 5, 2) := by decide +kernel
theorem dX1_write_19 : decode cX1_write 19 = .ok (.iload_n 1, 1) := by decide +kernel
theorem dX1_write_20 : decode cX1_write 20 = .ok (.iastore, 1) := by decide +kernel
theorem dX1_write_21 : decode cX1_write 21 = .ok (.aload_n 0, 1) := by decide +kernel
theorem dX1_write_22 : decode cX1_write 22 = .ok (.getfield 15, 3) := by decide +kernel
theorem dX1_write_25 : decode cX1_write 25 = .ok (.iload 5, 2) := by decide +kernel
theorem dX1_write_27 : decode cX1_write 27 = .ok (.iload_n 2, 1) := by decide +kernel
theorem dX1_write_28 : decode cX1_write 28 = .ok (.iastore, 1) := by decide +kernel
theorem dX1_write_29 : decode cX1_write 29 = .ok (.aload_n 0, 1) := by decide +kernel
theorem dX1_write_30 : decode cX1_write 30 = .ok (.getfield 18, 3) := by decide +kernel
theorem dX1_write_33 : decode cX1_write 33 = .ok (.iload 5, 2) := by decide +kernel
theorem dX1_write_35 : decode cX1_write 35 = .ok (.iload_n 3, 1) := by decide +kernel
theorem dX1_write_36 : decode cX1_write 36 = .ok (.iastore, 1) := by decide +kernel
theorem dX1_write_37 : decode cX1_write 37 = .ok (.aload_n 0, 1) := by decide +kernel
theorem dX1_write_38 : decode cX1_write 38 = .ok (.getfield 21, 3) := by decide +kernel
theorem dX1_write_41 : decode cX1_write 41 = .ok (.iload 5, 2) := by decide +kernel
theorem dX1_write_43 : decode cX1_write 43 = .ok (.iload 4, 2) := by decide +kernel
theorem dX1_write_45 : decode cX1_write 45 = .ok (.iastore, 1) := by decide +kernel
theorem dX1_write_46 : decode cX1_write 46 = .ok (.aload_n 0, 1) := by decide +kernel
theorem dX1_write_47 : decode cX1_write 47 = .ok (.getfield 24, 3) := by decide +kernel
theorem dX1_write_50 : decode cX1_write 50 = .ok (.iload 5, 2) := by decide +kernel
theorem dX1_write_52 : decode cX1_write 52 = .ok (.iconst 1, 1) := by decide +kernel
theorem dX1_write_53 : decode cX1_write 53 = .ok (.bastore, 1) := by decide +kernel
theorem dX1_write_54 : decode cX1_write 54 = .ok (.aload_n 0, 1) := by decide +kernel
theorem dX1_write_55 : decode cX1_write 55 = .ok (.dup, 1) := by decide +kernel
theorem dX1_write_56 : decode cX1_write 56 = .ok (.getfield 96, 3) := by decide +kernel
theorem dX1_write_59 : decode cX1_write 59 = .ok (.iconst 1, 1) := by decide +kernel
theorem dX1_write_60 : decode cX1_write 60 = .ok (.iadd, 1) := by decide +kernel
theorem dX1_write_61 : decode cX1_write 61 = .ok (.putfield 96, 3) := by decide +kernel
theorem dX1_write_64 : decode cX1_write 64 = .ok (.aload_n 0, 1) := by decide +kernel
theorem dX1_write_65 : decode cX1_write 65 = .ok (.iload 5, 2) := by decide +kernel
theorem dX1_write_67 : decode cX1_write 67 = .ok (.iload 5, 2) := by decide +kernel
theorem dX1_write_69 : decode cX1_write 69 = .ok (.invokevirtual 99, 3) := by decide +kernel
theorem dX1_write_72 : decode cX1_write 72 = .ok (.iload 5, 2) := by decide +kernel
theorem dX1_write_74 : decode cX1_write 74 = .ok (.ireturn, 1) := by decide +kernel
theorem dX1_strike_0 : decode cX1_strike 0 = .ok (.aload_n 0, 1) := by decide +kernel
theorem dX1_strike_1 : decode cX1_strike 1 = .ok (.getfield 24, 3) := by decide +kernel
theorem dX1_strike_4 : decode cX1_strike 4 = .ok (.iload_n 1, 1) := by decide +kernel
theorem dX1_strike_5 : decode cX1_strike 5 = .ok (.iconst 0, 1) := by decide +kernel
theorem dX1_strike_6 : decode cX1_strike 6 = .ok (.bastore, 1) := by decide +kernel
theorem dX1_strike_7 : decode cX1_strike 7 = .ok (.aload_n 0, 1) := by decide +kernel
theorem dX1_strike_8 : decode cX1_strike 8 = .ok (.dup, 1) := by decide +kernel
theorem dX1_strike_9 : decode cX1_strike 9 = .ok (.getfield 96, 3) := by decide +kernel
theorem dX1_strike_12 : decode cX1_strike 12 = .ok (.iconst 1, 1) := by decide +kernel
theorem dX1_strike_13 : decode cX1_strike 13 = .ok (.isub, 1) := by decide +kernel
theorem dX1_strike_14 : decode cX1_strike 14 = .ok (.putfield 96, 3) := by decide +kernel
theorem dX1_strike_17 : decode cX1_strike 17 = .ok (.aload_n 0, 1) := by decide +kernel
theorem dX1_strike_18 : decode cX1_strike 18 = .ok (.iload_n 1, 1) := by decide +kernel
theorem dX1_strike_19 : decode cX1_strike 19 = .ok (.bipush (-9), 2) := by decide +kernel
theorem dX1_strike_21 : decode cX1_strike 21 = .ok (.invokevirtual 99, 3) := by decide +kernel
theorem dX1_strike_24 : decode cX1_strike 24 = .ok (.return_, 1) := by decide +kernel
theorem dX1_point_0 : decode cX1_point 0 = .ok (.aload_n 0, 1) := by decide +kernel
theorem dX1_point_1 : decode cX1_point 1 = .ok (.getfield 15, 3) := by decide +kernel
theorem dX1_point_4 : decode cX1_point 4 = .ok (.iload_n 1, 1) := by decide +kernel
theorem dX1_point_5 : decode cX1_point 5 = .ok (.iaload, 1) := by decide +kernel
theorem dX1_point_6 : decode cX1_point 6 = .ok (.istore_n 3, 1) := by decide +kernel
theorem dX1_point_7 : decode cX1_point 7 = .ok (.aload_n 0, 1) := by decide +kernel
theorem dX1_point_8 : decode cX1_point 8 = .ok (.getfield 9, 3) := by decide +kernel
theorem dX1_point_11 : decode cX1_point 11 = .ok (.iload_n 1, 1) := by decide +kernel
theorem dX1_point_12 : decode cX1_point 12 = .ok (.iaload, 1) := by decide +kernel
theorem dX1_point_13 : decode cX1_point 13 = .ok (.tableswitch 82 5 7 #[27, 47, 67], 27) := by decide +kernel
theorem dX1_point_40 : decode cX1_point 40 = .ok (.aload_n 0, 1) := by decide +kernel
theorem dX1_point_41 : decode cX1_point 41 = .ok (.getfield 31, 3) := by decide +kernel
theorem dX1_point_44 : decode cX1_point 44 = .ok (.iload_n 3, 1) := by decide +kernel
theorem dX1_point_45 : decode cX1_point 45 = .ok (.bipush 10, 2) := by decide +kernel
theorem dX1_point_47 : decode cX1_point 47 = .ok (.imul, 1) := by decide +kernel
theorem dX1_point_48 : decode cX1_point 48 = .ok (.aload_n 0, 1) := by decide +kernel
theorem dX1_point_49 : decode cX1_point 49 = .ok (.getfield 21, 3) := by decide +kernel
theorem dX1_point_52 : decode cX1_point 52 = .ok (.iload_n 1, 1) := by decide +kernel
theorem dX1_point_53 : decode cX1_point 53 = .ok (.iaload, 1) := by decide +kernel
theorem dX1_point_54 : decode cX1_point 54 = .ok (.iadd, 1) := by decide +kernel
theorem dX1_point_55 : decode cX1_point 55 = .ok (.iload_n 2, 1) := by decide +kernel
theorem dX1_point_56 : decode cX1_point 56 = .ok (.iastore, 1) := by decide +kernel
theorem dX1_point_57 : decode cX1_point 57 = .ok (.goto 82, 3) := by decide +kernel
theorem dX1_point_60 : decode cX1_point 60 = .ok (.aload_n 0, 1) := by decide +kernel
theorem dX1_point_61 : decode cX1_point 61 = .ok (.getfield 34, 3) := by decide +kernel
theorem dX1_point_64 : decode cX1_point 64 = .ok (.iload_n 3, 1) := by decide +kernel
theorem dX1_point_65 : decode cX1_point 65 = .ok (.bipush 6, 2) := by decide +kernel
theorem dX1_point_67 : decode cX1_point 67 = .ok (.imul, 1) := by decide +kernel
theorem dX1_point_68 : decode cX1_point 68 = .ok (.aload_n 0, 1) := by decide +kernel
theorem dX1_point_69 : decode cX1_point 69 = .ok (.getfield 18, 3) := by decide +kernel
theorem dX1_point_72 : decode cX1_point 72 = .ok (.iload_n 1, 1) := by decide +kernel
theorem dX1_point_73 : decode cX1_point 73 = .ok (.iaload, 1) := by decide +kernel
theorem dX1_point_74 : decode cX1_point 74 = .ok (.iadd, 1) := by decide +kernel
theorem dX1_point_75 : decode cX1_point 75 = .ok (.iload_n 2, 1) := by decide +kernel
theorem dX1_point_76 : decode cX1_point 76 = .ok (.iastore, 1) := by decide +kernel
theorem dX1_point_77 : decode cX1_point 77 = .ok (.goto 62, 3) := by decide +kernel
theorem dX1_point_80 : decode cX1_point 80 = .ok (.aload_n 0, 1) := by decide +kernel
theorem dX1_point_81 : decode cX1_point 81 = .ok (.getfield 37, 3) := by decide +kernel
theorem dX1_point_84 : decode cX1_point 84 = .ok (.aload_n 0, 1) := by decide +kernel
theorem dX1_point_85 : decode cX1_point 85 = .ok (.getfield 18, 3) := by decide +kernel
theorem dX1_point_88 : decode cX1_point 88 = .ok (.iload_n 1, 1) := by decide +kernel
theorem dX1_point_89 : decode cX1_point 89 = .ok (.iaload, 1) := by decide +kernel
theorem dX1_point_90 : decode cX1_point 90 = .ok (.iload_n 2, 1) := by decide +kernel
theorem dX1_point_91 : decode cX1_point 91 = .ok (.iastore, 1) := by decide +kernel
theorem dX1_point_92 : decode cX1_point 92 = .ok (.goto 47, 3) := by decide +kernel
theorem dX1_point_95 : decode cX1_point 95 = .ok (.aload_n 0, 1) := by decide +kernel
theorem dX1_point_96 : decode cX1_point 96 = .ok (.getfield 28, 3) := by decide +kernel
theorem dX1_point_99 : decode cX1_point 99 = .ok (.iload_n 3, 1) := by decide +kernel
theorem dX1_point_100 : decode cX1_point 100 = .ok (.iload_n 2, 1) := by decide +kernel
theorem dX1_point_101 : decode cX1_point 101 = .ok (.iastore, 1) := by decide +kernel
theorem dX1_point_102 : decode cX1_point 102 = .ok (.aload_n 0, 1) := by decide +kernel
theorem dX1_point_103 : decode cX1_point 103 = .ok (.getfield 52, 3) := by decide +kernel
theorem dX1_point_106 : decode cX1_point 106 = .ok (.getfield 103, 3) := by decide +kernel
theorem dX1_point_109 : decode cX1_point 109 = .ok (.iload_n 3, 1) := by decide +kernel
theorem dX1_point_110 : decode cX1_point 110 = .ok (.iload_n 2, 1) := by decide +kernel
theorem dX1_point_111 : decode cX1_point 111 = .ok (.bipush (-9), 2) := by decide +kernel
theorem dX1_point_113 : decode cX1_point 113 = .ok (.if_icmp .ne 9, 3) := by decide +kernel
theorem dX1_point_116 : decode cX1_point 116 = .ok (.sipush 255, 3) := by decide +kernel
theorem dX1_point_119 : decode cX1_point 119 = .ok (.goto 19, 3) := by decide +kernel
theorem dX1_point_122 : decode cX1_point 122 = .ok (.iconst 0, 1) := by decide +kernel
theorem dX1_point_123 : decode cX1_point 123 = .ok (.aload_n 0, 1) := by decide +kernel
theorem dX1_point_124 : decode cX1_point 124 = .ok (.getfield 9, 3) := by decide +kernel
theorem dX1_point_127 : decode cX1_point 127 = .ok (.iload_n 1, 1) := by decide +kernel
theorem dX1_point_128 : decode cX1_point 128 = .ok (.iaload, 1) := by decide +kernel
theorem dX1_point_129 : decode cX1_point 129 = .ok (.aload_n 0, 1) := by decide +kernel
theorem dX1_point_130 : decode cX1_point 130 = .ok (.getfield 18, 3) := by decide +kernel
theorem dX1_point_133 : decode cX1_point 133 = .ok (.iload_n 1, 1) := by decide +kernel
theorem dX1_point_134 : decode cX1_point 134 = .ok (.iaload, 1) := by decide +kernel
theorem dX1_point_135 : decode cX1_point 135 = .ok (.invokestatic 106, 3) := by decide +kernel
theorem dX1_point_138 : decode cX1_point 138 = .ok (.iastore, 1) := by decide +kernel
theorem dX1_point_139 : decode cX1_point 139 = .ok (.return_, 1) := by decide +kernel
theorem dX1_part_0 : decode cX1_part 0 = .ok (.iload_n 2, 1) := by decide +kernel
theorem dX1_part_1 : decode cX1_part 1 = .ok (.tableswitch 67 0 3 #[31, 40, 49, 58], 31) := by decide +kernel
theorem dX1_part_32 : decode cX1_part 32 = .ok (.aload_n 0, 1) := by decide +kernel
theorem dX1_part_33 : decode cX1_part 33 = .ok (.getfield 9, 3) := by decide +kernel
theorem dX1_part_36 : decode cX1_part 36 = .ok (.iload_n 1, 1) := by decide +kernel
theorem dX1_part_37 : decode cX1_part 37 = .ok (.iaload, 1) := by decide +kernel
theorem dX1_part_38 : decode cX1_part 38 = .ok (.goto 39, 3) := by decide +kernel
theorem dX1_part_41 : decode cX1_part 41 = .ok (.aload_n 0, 1) := by decide +kernel
theorem dX1_part_42 : decode cX1_part 42 = .ok (.getfield 15, 3) := by decide +kernel
theorem dX1_part_45 : decode cX1_part 45 = .ok (.iload_n 1, 1) := by decide +kernel
theorem dX1_part_46 : decode cX1_part 46 = .ok (.iaload, 1) := by decide +kernel
theorem dX1_part_47 : decode cX1_part 47 = .ok (.goto 30, 3) := by decide +kernel
theorem dX1_part_50 : decode cX1_part 50 = .ok (.aload_n 0, 1) := by decide +kernel
theorem dX1_part_51 : decode cX1_part 51 = .ok (.getfield 18, 3) := by decide +kernel
theorem dX1_part_54 : decode cX1_part 54 = .ok (.iload_n 1, 1) := by decide +kernel
theorem dX1_part_55 : decode cX1_part 55 = .ok (.iaload, 1) := by decide +kernel
theorem dX1_part_56 : decode cX1_part 56 = .ok (.goto 21, 3) := by decide +kernel
theorem dX1_part_59 : decode cX1_part 59 = .ok (.aload_n 0, 1) := by decide +kernel
theorem dX1_part_60 : decode cX1_part 60 = .ok (.getfield 21, 3) := by decide +kernel
theorem dX1_part_63 : decode cX1_part 63 = .ok (.iload_n 1, 1) := by decide +kernel
theorem dX1_part_64 : decode cX1_part 64 = .ok (.iaload, 1) := by decide +kernel
theorem dX1_part_65 : decode cX1_part 65 = .ok (.goto 12, 3) := by decide +kernel
theorem dX1_part_68 : decode cX1_part 68 = .ok (.aload_n 0, 1) := by decide +kernel
theorem dX1_part_69 : decode cX1_part 69 = .ok (.getfield 24, 3) := by decide +kernel
theorem dX1_part_72 : decode cX1_part 72 = .ok (.iload_n 1, 1) := by decide +kernel
theorem dX1_part_73 : decode cX1_part 73 = .ok (.baload, 1) := by decide +kernel
theorem dX1_part_74 : decode cX1_part 74 = .ok (.invokestatic 110, 3) := by decide +kernel
theorem dX1_part_77 : decode cX1_part 77 = .ok (.ireturn, 1) := by decide +kernel
theorem dX1_saidFlag_0 : decode cX1_saidFlag 0 = .ok (.aload_n 0, 1) := by decide +kernel
theorem dX1_saidFlag_1 : decode cX1_saidFlag 1 = .ok (.getfield 34, 3) := by decide +kernel
theorem dX1_saidFlag_4 : decode cX1_saidFlag 4 = .ok (.iload_n 1, 1) := by decide +kernel
theorem dX1_saidFlag_5 : decode cX1_saidFlag 5 = .ok (.bipush 6, 2) := by decide +kernel
theorem dX1_saidFlag_7 : decode cX1_saidFlag 7 = .ok (.imul, 1) := by decide +kernel
theorem dX1_saidFlag_8 : decode cX1_saidFlag 8 = .ok (.iload_n 2, 1) := by decide +kernel
theorem dX1_saidFlag_9 : decode cX1_saidFlag 9 = .ok (.iadd, 1) := by decide +kernel
theorem dX1_saidFlag_10 : decode cX1_saidFlag 10 = .ok (.iaload, 1) := by decide +kernel
theorem dX1_saidFlag_11 : decode cX1_saidFlag 11 = .ok (.istore_n 3, 1) := by decide +kernel
theorem dX1_saidFlag_12 : decode cX1_saidFlag 12 = .ok (.iload_n 3, 1) := by decide +kernel
theorem dX1_saidFlag_13 : decode cX1_saidFlag 13 = .ok (.bipush (-9), 2) := by decide +kernel
theorem dX1_saidFlag_15 : decode cX1_saidFlag 15 = .ok (.if_icmp .ne 15, 3) := by decide +kernel
theorem dX1_saidFlag_18 : decode cX1_saidFlag 18 = .ok (.aload_n 0, 1) := by decide +kernel
theorem dX1_saidFlag_19 : decode cX1_saidFlag 19 = .ok (.getfield 43, 3) := by decide +kernel
theorem dX1_saidFlag_22 : decode cX1_saidFlag 22 = .ok (.iload_n 1, 1) := by decide +kernel
theorem dX1_saidFlag_23 : decode cX1_saidFlag 23 = .ok (.iload_n 2, 1) := by decide +kernel
theorem dX1_saidFlag_24 : decode cX1_saidFlag 24 = .ok (.invokevirtual 114, 3) := by decide +kernel
theorem dX1_saidFlag_27 : decode cX1_saidFlag 27 = .ok (.goto 9, 3) := by decide +kernel
theorem dX1_saidFlag_30 : decode cX1_saidFlag 30 = .ok (.aload_n 0, 1) := by decide +kernel
theorem dX1_saidFlag_31 : decode cX1_saidFlag 31 = .ok (.getfield 21, 3) := by decide +kernel
theorem dX1_saidFlag_34 : decode cX1_saidFlag 34 = .ok (.iload_n 3, 1) := by decide +kernel
theorem dX1_saidFlag_35 : decode cX1_saidFlag 35 = .ok (.iaload, 1) := by decide +kernel
theorem dX1_saidFlag_36 : decode cX1_saidFlag 36 = .ok (.ireturn, 1) := by decide +kernel
theorem dX1_keyOf_0 : decode cX1_keyOf 0 = .ok (.aload_n 0, 1) := by decide +kernel
theorem dX1_keyOf_1 : decode cX1_keyOf 1 = .ok (.getfield 37, 3) := by decide +kernel
theorem dX1_keyOf_4 : decode cX1_keyOf 4 = .ok (.iload_n 1, 1) := by decide +kernel
theorem dX1_keyOf_5 : decode cX1_keyOf 5 = .ok (.iaload, 1) := by decide +kernel
theorem dX1_keyOf_6 : decode cX1_keyOf 6 = .ok (.istore_n 2, 1) := by decide +kernel
theorem dX1_keyOf_7 : decode cX1_keyOf 7 = .ok (.iload_n 2, 1) := by decide +kernel
theorem dX1_keyOf_8 : decode cX1_keyOf 8 = .ok (.bipush (-9), 2) := by decide +kernel
theorem dX1_keyOf_10 : decode cX1_keyOf 10 = .ok (.if_icmp .ne 8, 3) := by decide +kernel
theorem dX1_keyOf_13 : decode cX1_keyOf 13 = .ok (.bipush (-9), 2) := by decide +kernel
theorem dX1_keyOf_15 : decode cX1_keyOf 15 = .ok (.goto 9, 3) := by decide +kernel
theorem dX1_keyOf_18 : decode cX1_keyOf 18 = .ok (.aload_n 0, 1) := by decide +kernel
theorem dX1_keyOf_19 : decode cX1_keyOf 19 = .ok (.getfield 15, 3) := by decide +kernel
theorem dX1_keyOf_22 : decode cX1_keyOf 22 = .ok (.iload_n 2, 1) := by decide +kernel
theorem dX1_keyOf_23 : decode cX1_keyOf 23 = .ok (.iaload, 1) := by decide +kernel
theorem dX1_keyOf_24 : decode cX1_keyOf 24 = .ok (.ireturn, 1) := by decide +kernel
theorem dX1_clearClash_0 : decode cX1_clearClash 0 = .ok (.aload_n 0, 1) := by decide +kernel
theorem dX1_clearClash_1 : decode cX1_clearClash 1 = .ok (.iconst 0, 1) := by decide +kernel
theorem dX1_clearClash_2 : decode cX1_clearClash 2 = .ok (.putfield 118, 3) := by decide +kernel
theorem dX1_clearClash_5 : decode cX1_clearClash 5 = .ok (.return_, 1) := by decide +kernel
theorem dX1_addClash_0 : decode cX1_addClash 0 = .ok (.iload_n 1, 1) := by decide +kernel
theorem dX1_addClash_1 : decode cX1_addClash 1 = .ok (.bipush (-9), 2) := by decide +kernel
theorem dX1_addClash_3 : decode cX1_addClash 3 = .ok (.if_icmp .eq 15, 3) := by decide +kernel
theorem dX1_addClash_6 : decode cX1_addClash 6 = .ok (.aload_n 0, 1) := by decide +kernel
theorem dX1_addClash_7 : decode cX1_addClash 7 = .ok (.getfield 118, 3) := by decide +kernel
theorem dX1_addClash_10 : decode cX1_addClash 10 = .ok (.aload_n 0, 1) := by decide +kernel
theorem dX1_addClash_11 : decode cX1_addClash 11 = .ok (.getfield 40, 3) := by decide +kernel
theorem dX1_addClash_14 : decode cX1_addClash 14 = .ok (.arraylength, 1) := by decide +kernel
theorem dX1_addClash_15 : decode cX1_addClash 15 = .ok (.if_icmp .lt 5, 3) := by decide +kernel
theorem dX1_addClash_18 : decode cX1_addClash 18 = .ok (.iconst 0, 1) := by decide +kernel
theorem dX1_addClash_19 : decode cX1_addClash 19 = .ok (.ireturn, 1) := by decide +kernel
theorem dX1_addClash_20 : decode cX1_addClash 20 = .ok (.aload_n 0, 1) := by decide +kernel
theorem dX1_addClash_21 : decode cX1_addClash 21 = .ok (.getfield 40, 3) := by decide +kernel
theorem dX1_addClash_24 : decode cX1_addClash 24 = .ok (.aload_n 0, 1) := by decide +kernel
theorem dX1_addClash_25 : decode cX1_addClash 25 = .ok (.dup, 1) := by decide +kernel
theorem dX1_addClash_26 : decode cX1_addClash 26 = .ok (.getfield 118, 3) := by decide +kernel
theorem dX1_addClash_29 : decode cX1_addClash 29 = .ok (.dup_x1, 1) := by decide +kernel
theorem dX1_addClash_30 : decode cX1_addClash 30 = .ok (.iconst 1, 1) := by decide +kernel
theorem dX1_addClash_31 : decode cX1_addClash 31 = .ok (.iadd, 1) := by decide +kernel
theorem dX1_addClash_32 : decode cX1_addClash 32 = .ok (.putfield 118, 3) := by decide +kernel
theorem dX1_addClash_35 : decode cX1_addClash 35 = .ok (.iload_n 1, 1) := by decide +kernel
theorem dX1_addClash_36 : decode cX1_addClash 36 = .ok (.iastore, 1) := by decide +kernel
theorem dX1_addClash_37 : decode cX1_addClash 37 = .ok (.iconst 1, 1) := by decide +kernel
theorem dX1_addClash_38 : decode cX1_addClash 38 = .ok (.ireturn, 1) := by decide +kernel
theorem dX1_isClashing_0 : decode cX1_isClashing 0 = .ok (.aload_n 0, 1) := by decide +kernel
theorem dX1_isClashing_1 : decode cX1_isClashing 1 = .ok (.aload_n 0, 1) := by decide +kernel
theorem dX1_isClashing_2 : decode cX1_isClashing 2 = .ok (.iload_n 1, 1) := by decide +kernel
theorem dX1_isClashing_3 : decode cX1_isClashing 3 = .ok (.iload_n 2, 1) := by decide +kernel
theorem dX1_isClashing_4 : decode cX1_isClashing 4 = .ok (.iload_n 3, 1) := by decide +kernel
theorem dX1_isClashing_5 : decode cX1_isClashing 5 = .ok (.iload 4, 2) := by decide +kernel
theorem dX1_isClashing_7 : decode cX1_isClashing 7 = .ok (.invokevirtual 88, 3) := by decide +kernel
theorem dX1_isClashing_10 : decode cX1_isClashing 10 = .ok (.invokevirtual 121, 3) := by decide +kernel
theorem dX1_isClashing_13 : decode cX1_isClashing 13 = .ok (.ifCond .eq 5, 3) := by decide +kernel
theorem dX1_isClashing_16 : decode cX1_isClashing 16 = .ok (.iconst 1, 1) := by decide +kernel
theorem dX1_isClashing_17 : decode cX1_isClashing 17 = .ok (.ireturn, 1) := by decide +kernel
theorem dX1_isClashing_18 : decode cX1_isClashing 18 = .ok (.iload_n 1, 1) := by decide +kernel
theorem dX1_isClashing_19 : decode cX1_isClashing 19 = .ok (.tableswitch 69 5 7 #[25, 54, 65], 25) := by decide +kernel
theorem dX1_isClashing_44 : decode cX1_isClashing 44 = .ok (.aload_n 0, 1) := by decide +kernel
theorem dX1_isClashing_45 : decode cX1_isClashing 45 = .ok (.getfield 43, 3) := by decide +kernel
theorem dX1_isClashing_48 : decode cX1_isClashing 48 = .ok (.iload_n 3, 1) := by decide +kernel
theorem dX1_isClashing_49 : decode cX1_isClashing 49 = .ok (.invokevirtual 72, 3) := by decide +kernel
theorem dX1_isClashing_52 : decode cX1_isClashing 52 = .ok (.iconst 2, 1) := by decide +kernel
theorem dX1_isClashing_53 : decode cX1_isClashing 53 = .ok (.if_icmp .ne 16, 3) := by decide +kernel
theorem dX1_isClashing_56 : decode cX1_isClashing 56 = .ok (.aload_n 0, 1) := by decide +kernel
theorem dX1_isClashing_57 : decode cX1_isClashing 57 = .ok (.iload_n 2, 1) := by decide +kernel
theorem dX1_isClashing_58 : decode cX1_isClashing 58 = .ok (.iload_n 3, 1) := by decide +kernel
theorem dX1_isClashing_59 : decode cX1_isClashing 59 = .ok (.invokevirtual 124, 3) := by decide +kernel
theorem dX1_isClashing_62 : decode cX1_isClashing 62 = .ok (.ifCond .eq 7, 3) := by decide +kernel
theorem dX1_isClashing_65 : decode cX1_isClashing 65 = .ok (.iconst 1, 1) := by decide +kernel
theorem dX1_isClashing_66 : decode cX1_isClashing 66 = .ok (.goto 29, 3) := by decide +kernel
theorem dX1_isClashing_69 : decode cX1_isClashing 69 = .ok (.iconst 0, 1) := by decide +kernel
theorem dX1_isClashing_70 : decode cX1_isClashing 70 = .ok (.goto 25, 3) := by decide +kernel
theorem dX1_isClashing_73 : decode cX1_isClashing 73 = .ok (.aload_n 0, 1) := by decide +kernel
theorem dX1_isClashing_74 : decode cX1_isClashing 74 = .ok (.iload_n 2, 1) := by decide +kernel
theorem dX1_isClashing_75 : decode cX1_isClashing 75 = .ok (.iload_n 3, 1) := by decide +kernel
theorem dX1_isClashing_76 : decode cX1_isClashing 76 = .ok (.iload 4, 2) := by decide +kernel
theorem dX1_isClashing_78 : decode cX1_isClashing 78 = .ok (.invokevirtual 127, 3) := by decide +kernel
theorem dX1_isClashing_81 : decode cX1_isClashing 81 = .ok (.goto 14, 3) := by decide +kernel
theorem dX1_isClashing_84 : decode cX1_isClashing 84 = .ok (.iconst 0, 1) := by decide +kernel
theorem dX1_isClashing_85 : decode cX1_isClashing 85 = .ok (.goto 10, 3) := by decide +kernel
theorem dX1_isClashing_88 : decode cX1_isClashing 88 = .ok (.aload_n 0, 1) := by decide +kernel
theorem dX1_isClashing_89 : decode cX1_isClashing 89 = .ok (.iload_n 1, 1) := by decide +kernel
theorem dX1_isClashing_90 : decode cX1_isClashing 90 = .ok (.iload_n 2, 1) := by decide +kernel
theorem dX1_isClashing_91 : decode cX1_isClashing 91 = .ok (.iload_n 3, 1) := by decide +kernel
theorem dX1_isClashing_92 : decode cX1_isClashing 92 = .ok (.invokevirtual 131, 3) := by decide +kernel
theorem dX1_isClashing_95 : decode cX1_isClashing 95 = .ok (.ireturn, 1) := by decide +kernel
theorem dX1_isPlaceClashing_0 : decode cX1_isPlaceClashing 0 = .ok (.iload_n 2, 1) := by decide +kernel
theorem dX1_isPlaceClashing_1 : decode cX1_isPlaceClashing 1 = .ok (.iload_n 3, 1) := by decide +kernel
theorem dX1_isPlaceClashing_2 : decode cX1_isPlaceClashing 2 = .ok (.if_icmp .ne 5, 3) := by decide +kernel
theorem dX1_isPlaceClashing_5 : decode cX1_isPlaceClashing 5 = .ok (.iconst 1, 1) := by decide +kernel
theorem dX1_isPlaceClashing_6 : decode cX1_isPlaceClashing 6 = .ok (.ireturn, 1) := by decide +kernel
theorem dX1_isPlaceClashing_7 : decode cX1_isPlaceClashing 7 = .ok (.aload_n 0, 1) := by decide +kernel
theorem dX1_isPlaceClashing_8 : decode cX1_isPlaceClashing 8 = .ok (.getfield 52, 3) := by decide +kernel
theorem dX1_isPlaceClashing_11 : decode cX1_isPlaceClashing 11 = .ok (.iload_n 2, 1) := by decide +kernel
theorem dX1_isPlaceClashing_12 : decode cX1_isPlaceClashing 12 = .ok (.iload_n 3, 1) := by decide +kernel
theorem dX1_isPlaceClashing_13 : decode cX1_isPlaceClashing 13 = .ok (.invokevirtual 134, 3) := by decide +kernel
theorem dX1_isPlaceClashing_16 : decode cX1_isPlaceClashing 16 = .ok (.ifCond .eq 11, 3) := by decide +kernel
theorem dX1_isPlaceClashing_19 : decode cX1_isPlaceClashing 19 = .ok (.aload_n 0, 1) := by decide +kernel
theorem dX1_isPlaceClashing_20 : decode cX1_isPlaceClashing 20 = .ok (.iload_n 2, 1) := by decide +kernel
theorem dX1_isPlaceClashing_21 : decode cX1_isPlaceClashing 21 = .ok (.iload_n 3, 1) := by decide +kernel
theorem dX1_isPlaceClashing_22 : decode cX1_isPlaceClashing 22 = .ok (.invokevirtual 137, 3) := by decide +kernel
theorem dX1_isPlaceClashing_25 : decode cX1_isPlaceClashing 25 = .ok (.iconst 1, 1) := by decide +kernel
theorem dX1_isPlaceClashing_26 : decode cX1_isPlaceClashing 26 = .ok (.ireturn, 1) := by decide +kernel
theorem dX1_isPlaceClashing_27 : decode cX1_isPlaceClashing 27 = .ok (.iload_n 1, 1) := by decide +kernel
theorem dX1_isPlaceClashing_28 : decode cX1_isPlaceClashing 28 = .ok (.iconst 3, 1) := by decide +kernel
theorem dX1_isPlaceClashing_29 : decode cX1_isPlaceClashing 29 = .ok (.if_icmp .ne 21, 3) := by decide +kernel
theorem dX1_isPlaceClashing_32 : decode cX1_isPlaceClashing 32 = .ok (.aload_n 0, 1) := by decide +kernel
theorem dX1_isPlaceClashing_33 : decode cX1_isPlaceClashing 33 = .ok (.aload_n 0, 1) := by decide +kernel
theorem dX1_isPlaceClashing_34 : decode cX1_isPlaceClashing 34 = .ok (.iload_n 2, 1) := by decide +kernel
theorem dX1_isPlaceClashing_35 : decode cX1_isPlaceClashing 35 = .ok (.iconst 4, 1) := by decide +kernel
theorem dX1_isPlaceClashing_36 : decode cX1_isPlaceClashing 36 = .ok (.iconst 0, 1) := by decide +kernel
theorem dX1_isPlaceClashing_37 : decode cX1_isPlaceClashing 37 = .ok (.invokevirtual 140, 3) := by decide +kernel
theorem dX1_isPlaceClashing_40 : decode cX1_isPlaceClashing 40 = .ok (.invokevirtual 121, 3) := by decide +kernel
theorem dX1_isPlaceClashing_43 : decode cX1_isPlaceClashing 43 = .ok (.ifCond .eq 7, 3) := by decide +kernel
theorem dX1_isPlaceClashing_46 : decode cX1_isPlaceClashing 46 = .ok (.iconst 1, 1) := by decide +kernel
theorem dX1_isPlaceClashing_47 : decode cX1_isPlaceClashing 47 = .ok (.goto 4, 3) := by decide +kernel
theorem dX1_isPlaceClashing_50 : decode cX1_isPlaceClashing 50 = .ok (.iconst 0, 1) := by decide +kernel
theorem dX1_isPlaceClashing_51 : decode cX1_isPlaceClashing 51 = .ok (.ireturn, 1) := by decide +kernel
theorem dX1_addChain_0 : decode cX1_addChain 0 = .ok (.iload_n 2, 1) := by decide +kernel
theorem dX1_addChain_1 : decode cX1_addChain 1 = .ok (.istore_n 3, 1) := by decide +kernel
theorem dX1_addChain_2 : decode cX1_addChain 2 = .ok (.iconst 0, 1) := by decide +kernel
theorem dX1_addChain_3 : decode cX1_addChain 3 = .ok (.istore 4, 2) := by decide +kernel
theorem dX1_addChain_5 : decode cX1_addChain 5 = .ok (.iload 4, 2) := by decide +kernel
theorem dX1_addChain_7 : decode cX1_addChain 7 = .ok (.bipush 30, 2) := by decide +kernel
theorem dX1_addChain_9 : decode cX1_addChain 9 = .ok (.if_icmp .ge 40, 3) := by decide +kernel
theorem dX1_addChain_12 : decode cX1_addChain 12 = .ok (.iload_n 3, 1) := by decide +kernel
theorem dX1_addChain_13 : decode cX1_addChain 13 = .ok (.iload_n 1, 1) := by decide +kernel
theorem dX1_addChain_14 : decode cX1_addChain 14 = .ok (.if_icmp .eq 35, 3) := by decide +kernel
theorem dX1_addChain_17 : decode cX1_addChain 17 = .ok (.iload_n 3, 1) := by decide +kernel
theorem dX1_addChain_18 : decode cX1_addChain 18 = .ok (.bipush (-9), 2) := by decide +kernel
theorem dX1_addChain_20 : decode cX1_addChain 20 = .ok (.if_icmp .eq 29, 3) := by decide +kernel
theorem dX1_addChain_23 : decode cX1_addChain 23 = .ok (.aload_n 0, 1) := by decide +kernel
theorem dX1_addChain_24 : decode cX1_addChain 24 = .ok (.aload_n 0, 1) := by decide +kernel
theorem dX1_addChain_25 : decode cX1_addChain 25 = .ok (.getfield 28, 3) := by decide +kernel
theorem dX1_addChain_28 : decode cX1_addChain 28 = .ok (.iload_n 3, 1) := by decide +kernel
theorem dX1_addChain_29 : decode cX1_addChain 29 = .ok (.iaload, 1) := by decide +kernel
theorem dX1_addChain_30 : decode cX1_addChain 30 = .ok (.invokevirtual 121, 3) := by decide +kernel
theorem dX1_addChain_33 : decode cX1_addChain 33 = .ok (.pop, 1) := by decide +kernel
theorem dX1_addChain_34 : decode cX1_addChain 34 = .ok (.aload_n 0, 1) := by decide +kernel
theorem dX1_addChain_35 : decode cX1_addChain 35 = .ok (.getfield 52, 3) := by decide +kernel
theorem dX1_addChain_38 : decode cX1_addChain 38 = .ok (.iload_n 3, 1) := by decide +kernel
theorem dX1_addChain_39 : decode cX1_addChain 39 = .ok (.invokevirtual 143, 3) := by decide +kernel
theorem dX1_addChain_42 : decode cX1_addChain 42 = .ok (.istore_n 3, 1) := by decide +kernel
theorem dX1_addChain_43 : decode cX1_addChain 43 = .ok (.iinc 4 1, 3) := by decide +kernel
theorem dX1_addChain_46 : decode cX1_addChain 46 = .ok (.goto (-41), 3) := by decide +kernel
theorem dX1_addChain_49 : decode cX1_addChain 49 = .ok (.return_, 1) := by decide +kernel
theorem dX1_isDoorClashing_0 : decode cX1_isDoorClashing 0 = .ok (.iconst 0, 1) := by decide +kernel
theorem dX1_isDoorClashing_1 : decode cX1_isDoorClashing 1 = .ok (.istore_n 3, 1) := by decide +kernel
theorem dX1_isDoorClashing_2 : decode cX1_isDoorClashing 2 = .ok (.iload_n 3, 1) := by decide +kernel
theorem dX1_isDoorClashing_3 : decode cX1_isDoorClashing 3 = .ok (.bipush 10, 2) := by decide +kernel
theorem dX1_isDoorClashing_5 : decode cX1_isDoorClashing 5 = .ok (.if_icmp .ge 47, 3) := by decide +kernel
theorem dX1_isDoorClashing_8 : decode cX1_isDoorClashing 8 = .ok (.aload_n 0, 1) := by decide +kernel
theorem dX1_isDoorClashing_9 : decode cX1_isDoorClashing 9 = .ok (.getfield 31, 3) := by decide +kernel
theorem dX1_isDoorClashing_12 : decode cX1_isDoorClashing 12 = .ok (.iload_n 1, 1) := by decide +kernel
theorem dX1_isDoorClashing_13 : decode cX1_isDoorClashing 13 = .ok (.bipush 10, 2) := by decide +kernel
theorem dX1_isDoorClashing_15 : decode cX1_isDoorClashing 15 = .ok (.imul, 1) := by decide +kernel
theorem dX1_isDoorClashing_16 : decode cX1_isDoorClashing 16 = .ok (.iload_n 3, 1) := by decide +kernel
theorem dX1_isDoorClashing_17 : decode cX1_isDoorClashing 17 = .ok (.iadd, 1) := by decide +kernel
theorem dX1_isDoorClashing_18 : decode cX1_isDoorClashing 18 = .ok (.iaload, 1) := by decide +kernel
theorem dX1_isDoorClashing_19 : decode cX1_isDoorClashing 19 = .ok (.istore 4, 2) := by decide +kernel
theorem dX1_isDoorClashing_21 : decode cX1_isDoorClashing 21 = .ok (.iload 4, 2) := by decide +kernel
theorem dX1_isDoorClashing_23 : decode cX1_isDoorClashing 23 = .ok (.bipush (-9), 2) := by decide +kernel
theorem dX1_isDoorClashing_25 : decode cX1_isDoorClashing 25 = .ok (.if_icmp .eq 21, 3) := by decide +kernel
theorem dX1_isDoorClashing_28 : decode cX1_isDoorClashing 28 = .ok (.aload_n 0, 1) := by decide +kernel
theorem dX1_isDoorClashing_29 : decode cX1_isDoorClashing 29 = .ok (.getfield 18, 3) := by decide +kernel
theorem dX1_isDoorClashing_32 : decode cX1_isDoorClashing 32 = .ok (.iload 4, 2) := by decide +kernel
theorem dX1_isDoorClashing_34 : decode cX1_isDoorClashing 34 = .ok (.iaload, 1) := by decide +kernel
theorem dX1_isDoorClashing_35 : decode cX1_isDoorClashing 35 = .ok (.iload_n 2, 1) := by decide +kernel
theorem dX1_isDoorClashing_36 : decode cX1_isDoorClashing 36 = .ok (.if_icmp .ne 10, 3) := by decide +kernel
theorem dX1_isDoorClashing_39 : decode cX1_isDoorClashing 39 = .ok (.aload_n 0, 1) := by decide +kernel
theorem dX1_isDoorClashing_40 : decode cX1_isDoorClashing 40 = .ok (.iload 4, 2) := by decide +kernel
theorem dX1_isDoorClashing_42 : decode cX1_isDoorClashing 42 = .ok (.invokevirtual 121, 3) := by decide +kernel
theorem dX1_isDoorClashing_45 : decode cX1_isDoorClashing 45 = .ok (.ireturn, 1) := by decide +kernel
theorem dX1_isDoorClashing_46 : decode cX1_isDoorClashing 46 = .ok (.iinc 3 1, 3) := by decide +kernel
theorem dX1_isDoorClashing_49 : decode cX1_isDoorClashing 49 = .ok (.goto (-47), 3) := by decide +kernel
theorem dX1_isDoorClashing_52 : decode cX1_isDoorClashing 52 = .ok (.iconst 0, 1) := by decide +kernel
theorem dX1_isDoorClashing_53 : decode cX1_isDoorClashing 53 = .ok (.istore_n 3, 1) := by decide +kernel
theorem dX1_isDoorClashing_54 : decode cX1_isDoorClashing 54 = .ok (.iload_n 3, 1) := by decide +kernel
theorem dX1_isDoorClashing_55 : decode cX1_isDoorClashing 55 = .ok (.aload_n 0, 1) := by decide +kernel
theorem dX1_isDoorClashing_56 : decode cX1_isDoorClashing 56 = .ok (.getfield 92, 3) := by decide +kernel
theorem dX1_isDoorClashing_59 : decode cX1_isDoorClashing 59 = .ok (.if_icmp .ge 44, 3) := by decide +kernel
theorem dX1_isDoorClashing_62 : decode cX1_isDoorClashing 62 = .ok (.aload_n 0, 1) := by decide +kernel
theorem dX1_isDoorClashing_63 : decode cX1_isDoorClashing 63 = .ok (.getfield 24, 3) := by decide +kernel
theorem dX1_isDoorClashing_66 : decode cX1_isDoorClashing 66 = .ok (.iload_n 3, 1) := by decide +kernel
theorem dX1_isDoorClashing_67 : decode cX1_isDoorClashing 67 = .ok (.baload, 1) := by decide +kernel
theorem dX1_isDoorClashing_68 : decode cX1_isDoorClashing 68 = .ok (.ifCond .eq 29, 3) := by decide +kernel
theorem dX1_isDoorClashing_71 : decode cX1_isDoorClashing 71 = .ok (.aload_n 0, 1) := by decide +kernel
theorem dX1_isDoorClashing_72 : decode cX1_isDoorClashing 72 = .ok (.getfield 9, 3) := by decide +kernel
theorem dX1_isDoorClashing_75 : decode cX1_isDoorClashing 75 = .ok (.iload_n 3, 1) := by decide +kernel
theorem dX1_isDoorClashing_76 : decode cX1_isDoorClashing 76 = .ok (.iaload, 1) := by decide +kernel
theorem dX1_isDoorClashing_77 : decode cX1_isDoorClashing 77 = .ok (.iconst 5, 1) := by decide +kernel
theorem dX1_isDoorClashing_78 : decode cX1_isDoorClashing 78 = .ok (.if_icmp .ne 19, 3) := by decide +kernel
theorem dX1_isDoorClashing_81 : decode cX1_isDoorClashing 81 = .ok (.aload_n 0, 1) := by decide +kernel
theorem dX1_isDoorClashing_82 : decode cX1_isDoorClashing 82 = .ok (.getfield 18, 3) := by decide +kernel
theorem dX1_isDoorClashing_85 : decode cX1_isDoorClashing 85 = .ok (.iload_n 3, 1) := by decide +kernel
theorem dX1_isDoorClashing_86 : decode cX1_isDoorClashing 86 = .ok (.iaload, 1) := by decide +kernel
theorem dX1_isDoorClashing_87 : decode cX1_isDoorClashing 87 = .ok (.iload_n 2, 1) := by decide +kernel
theorem dX1_isDoorClashing_88 : decode cX1_isDoorClashing 88 = .ok (.if_icmp .ne 9, 3) := by decide +kernel
theorem dX1_isDoorClashing_91 : decode cX1_isDoorClashing 91 = .ok (.aload_n 0, 1) := by decide +kernel
theorem dX1_isDoorClashing_92 : decode cX1_isDoorClashing 92 = .ok (.iload_n 3, 1) := by decide +kernel
theorem dX1_isDoorClashing_93 : decode cX1_isDoorClashing 93 = .ok (.invokevirtual 121, 3) := by decide +kernel
theorem dX1_isDoorClashing_96 : decode cX1_isDoorClashing 96 = .ok (.pop, 1) := by decide +kernel
theorem dX1_isDoorClashing_97 : decode cX1_isDoorClashing 97 = .ok (.iinc 3 1, 3) := by decide +kernel
theorem dX1_isDoorClashing_100 : decode cX1_isDoorClashing 100 = .ok (.goto (-46), 3) := by decide +kernel
theorem dX1_isDoorClashing_103 : decode cX1_isDoorClashing 103 = .ok (.aload_n 0, 1) := by decide +kernel
theorem dX1_isDoorClashing_104 : decode cX1_isDoorClashing 104 = .ok (.getfield 118, 3) := by decide +kernel
theorem dX1_isDoorClashing_107 : decode cX1_isDoorClashing 107 = .ok (.iconst 2, 1) := by decide +kernel
theorem dX1_isDoorClashing_108 : decode cX1_isDoorClashing 108 = .ok (.if_icmp .lt 5, 3) := by decide +kernel
theorem dX1_isDoorClashing_111 : decode cX1_isDoorClashing 111 = .ok (.iconst 1, 1) := by decide +kernel
theorem dX1_isDoorClashing_112 : decode cX1_isDoorClashing 112 = .ok (.ireturn, 1) := by decide +kernel
theorem dX1_isDoorClashing_113 : decode cX1_isDoorClashing 113 = .ok (.aload_n 0, 1) := by decide +kernel
theorem dX1_isDoorClashing_114 : decode cX1_isDoorClashing 114 = .ok (.invokevirtual 146, 3) := by decide +kernel
theorem dX1_isDoorClashing_117 : decode cX1_isDoorClashing 117 = .ok (.iconst 0, 1) := by decide +kernel
theorem dX1_isDoorClashing_118 : decode cX1_isDoorClashing 118 = .ok (.ireturn, 1) := by decide +kernel
theorem dX1_isFlagClashing_0 : decode cX1_isFlagClashing 0 = .ok (.iload_n 2, 1) := by decide +kernel
theorem dX1_isFlagClashing_1 : decode cX1_isFlagClashing 1 = .ok (.tableswitch 126 0 4 #[35, 62, 126, 126, 89], 35) := by decide +kernel
theorem dX1_isFlagClashing_36 : decode cX1_isFlagClashing 36 = .ok (.iload_n 3, 1) := by decide +kernel
theorem dX1_isFlagClashing_37 : decode cX1_isFlagClashing 37 = .ok (.iconst 1, 1) := by decide +kernel
theorem dX1_isFlagClashing_38 : decode cX1_isFlagClashing 38 = .ok (.if_icmp .ne 21, 3) := by decide +kernel
theorem dX1_isFlagClashing_41 : decode cX1_isFlagClashing 41 = .ok (.aload_n 0, 1) := by decide +kernel
theorem dX1_isFlagClashing_42 : decode cX1_isFlagClashing 42 = .ok (.aload_n 0, 1) := by decide +kernel
theorem dX1_isFlagClashing_43 : decode cX1_isFlagClashing 43 = .ok (.iload_n 1, 1) := by decide +kernel
theorem dX1_isFlagClashing_44 : decode cX1_isFlagClashing 44 = .ok (.iconst 1, 1) := by decide +kernel
theorem dX1_isFlagClashing_45 : decode cX1_isFlagClashing 45 = .ok (.iconst 1, 1) := by decide +kernel
theorem dX1_isFlagClashing_46 : decode cX1_isFlagClashing 46 = .ok (.invokevirtual 140, 3) := by decide +kernel
theorem dX1_isFlagClashing_49 : decode cX1_isFlagClashing 49 = .ok (.invokevirtual 121, 3) := by decide +kernel
theorem dX1_isFlagClashing_52 : decode cX1_isFlagClashing 52 = .ok (.ifCond .eq 7, 3) := by decide +kernel
theorem dX1_isFlagClashing_55 : decode cX1_isFlagClashing 55 = .ok (.iconst 1, 1) := by decide +kernel
theorem dX1_isFlagClashing_56 : decode cX1_isFlagClashing 56 = .ok (.goto 72, 3) := by decide +kernel
theorem dX1_isFlagClashing_59 : decode cX1_isFlagClashing 59 = .ok (.iconst 0, 1) := by decide +kernel
theorem dX1_isFlagClashing_60 : decode cX1_isFlagClashing 60 = .ok (.goto 68, 3) := by decide +kernel
theorem dX1_isFlagClashing_63 : decode cX1_isFlagClashing 63 = .ok (.iload_n 3, 1) := by decide +kernel
theorem dX1_isFlagClashing_64 : decode cX1_isFlagClashing 64 = .ok (.iconst 1, 1) := by decide +kernel
theorem dX1_isFlagClashing_65 : decode cX1_isFlagClashing 65 = .ok (.if_icmp .ne 21, 3) := by decide +kernel
theorem dX1_isFlagClashing_68 : decode cX1_isFlagClashing 68 = .ok (.aload_n 0, 1) := by decide +kernel
theorem dX1_isFlagClashing_69 : decode cX1_isFlagClashing 69 = .ok (.aload_n 0, 1) := by decide +kernel
theorem dX1_isFlagClashing_70 : decode cX1_isFlagClashing 70 = .ok (.iload_n 1, 1) := by decide +kernel
theorem dX1_isFlagClashing_71 : decode cX1_isFlagClashing 71 = .ok (.iconst 0, 1) := by decide +kernel
theorem dX1_isFlagClashing_72 : decode cX1_isFlagClashing 72 = .ok (.iconst 1, 1) := by decide +kernel
theorem dX1_isFlagClashing_73 : decode cX1_isFlagClashing 73 = .ok (.invokevirtual 140, 3) := by decide +kernel
theorem dX1_isFlagClashing_76 : decode cX1_isFlagClashing 76 = .ok (.invokevirtual 121, 3) := by decide +kernel
