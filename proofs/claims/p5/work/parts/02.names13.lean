theorem dX12_begin_121 : decode cX12_begin 121 = .ok (.iload 4, 2) := by decide +kernel
theorem dX12_begin_123 : decode cX12_begin 123 = .ok (.iaload, 1) := by decide +kernel
theorem dX12_begin_124 : decode cX12_begin 124 = .ok (.iastore, 1) := by decide +kernel
theorem dX12_begin_125 : decode cX12_begin 125 = .ok (.aload_n 0, 1) := by decide +kernel
theorem dX12_begin_126 : decode cX12_begin 126 = .ok (.getfield 53, 3) := by decide +kernel
theorem dX12_begin_129 : decode cX12_begin 129 = .ok (.iload_n 3, 1) := by decide +kernel
theorem dX12_begin_130 : decode cX12_begin 130 = .ok (.iload 4, 2) := by decide +kernel
theorem dX12_begin_132 : decode cX12_begin 132 = .ok (.bipush (-9), 2) := by decide +kernel
theorem dX12_begin_134 : decode cX12_begin 134 = .ok (.if_icmp .ne 8, 3) := by decide +kernel
theorem dX12_begin_137 : decode cX12_begin 137 = .ok (.bipush (-9), 2) := by decide +kernel
theorem dX12_begin_139 : decode cX12_begin 139 = .ok (.goto 10, 3) := by decide +kernel
theorem dX12_begin_142 : decode cX12_begin 142 = .ok (.aload_n 0, 1) := by decide +kernel
theorem dX12_begin_143 : decode cX12_begin 143 = .ok (.getfield 31, 3) := by decide +kernel
theorem dX12_begin_146 : decode cX12_begin 146 = .ok (.iload 4, 2) := by decide +kernel
theorem dX12_begin_148 : decode cX12_begin 148 = .ok (.iaload, 1) := by decide +kernel
theorem dX12_begin_149 : decode cX12_begin 149 = .ok (.iastore, 1) := by decide +kernel
theorem dX12_begin_150 : decode cX12_begin 150 = .ok (.aload_n 0, 1) := by decide +kernel
theorem dX12_begin_151 : decode cX12_begin 151 = .ok (.getfield 56, 3) := by decide +kernel
theorem dX12_begin_154 : decode cX12_begin 154 = .ok (.iload_n 3, 1) := by decide +kernel
theorem dX12_begin_155 : decode cX12_begin 155 = .ok (.aload_n 0, 1) := by decide +kernel
theorem dX12_begin_156 : decode cX12_begin 156 = .ok (.iload_n 3, 1) := by decide +kernel
theorem dX12_begin_157 : decode cX12_begin 157 = .ok (.invokevirtual 191, 3) := by decide +kernel
theorem dX12_begin_160 : decode cX12_begin 160 = .ok (.ifCond .eq 17, 3) := by decide +kernel
theorem dX12_begin_163 : decode cX12_begin 163 = .ok (.aload_n 0, 1) := by decide +kernel
theorem dX12_begin_164 : decode cX12_begin 164 = .ok (.iload_n 3, 1) := by decide +kernel
theorem dX12_begin_165 : decode cX12_begin 165 = .ok (.iconst 0, 1) := by decide +kernel
theorem dX12_begin_166 : decode cX12_begin 166 = .ok (.invokevirtual 256, 3) := by decide +kernel
theorem dX12_begin_169 : decode cX12_begin 169 = .ok (.iconst 1, 1) := by decide +kernel
theorem dX12_begin_170 : decode cX12_begin 170 = .ok (.if_icmp .ne 7, 3) := by decide +kernel
theorem dX12_begin_173 : decode cX12_begin 173 = .ok (.iconst 1, 1) := by decide +kernel
theorem dX12_begin_174 : decode cX12_begin 174 = .ok (.goto 4, 3) := by decide +kernel
theorem dX12_begin_177 : decode cX12_begin 177 = .ok (.iconst 0, 1) := by decide +kernel
theorem dX12_begin_178 : decode cX12_begin 178 = .ok (.bastore, 1) := by decide +kernel
theorem dX12_begin_179 : decode cX12_begin 179 = .ok (.aload_n 0, 1) := by decide +kernel
theorem dX12_begin_180 : decode cX12_begin 180 = .ok (.getfield 59, 3) := by decide +kernel
theorem dX12_begin_183 : decode cX12_begin 183 = .ok (.iload_n 3, 1) := by decide +kernel
theorem dX12_begin_184 : decode cX12_begin 184 = .ok (.aload_n 0, 1) := by decide +kernel
theorem dX12_begin_185 : decode cX12_begin 185 = .ok (.iload_n 3, 1) := by decide +kernel
theorem dX12_begin_186 : decode cX12_begin 186 = .ok (.invokevirtual 191, 3) := by decide +kernel
theorem dX12_begin_189 : decode cX12_begin 189 = .ok (.ifCond .eq 17, 3) := by decide +kernel
theorem dX12_begin_192 : decode cX12_begin 192 = .ok (.aload_n 0, 1) := by decide +kernel
theorem dX12_begin_193 : decode cX12_begin 193 = .ok (.iload_n 3, 1) := by decide +kernel
theorem dX12_begin_194 : decode cX12_begin 194 = .ok (.iconst 1, 1) := by decide +kernel
theorem dX12_begin_195 : decode cX12_begin 195 = .ok (.invokevirtual 256, 3) := by decide +kernel
theorem dX12_begin_198 : decode cX12_begin 198 = .ok (.iconst 1, 1) := by decide +kernel
theorem dX12_begin_199 : decode cX12_begin 199 = .ok (.if_icmp .ne 7, 3) := by decide +kernel
theorem dX12_begin_202 : decode cX12_begin 202 = .ok (.iconst 1, 1) := by decide +kernel
theorem dX12_begin_203 : decode cX12_begin 203 = .ok (.goto 4, 3) := by decide +kernel
theorem dX12_begin_206 : decode cX12_begin 206 = .ok (.iconst 0, 1) := by decide +kernel
theorem dX12_begin_207 : decode cX12_begin 207 = .ok (.bastore, 1) := by decide +kernel
theorem dX12_begin_208 : decode cX12_begin 208 = .ok (.iinc 3 1, 3) := by decide +kernel
theorem dX12_begin_211 : decode cX12_begin 211 = .ok (.goto (-126), 3) := by decide +kernel
theorem dX12_begin_214 : decode cX12_begin 214 = .ok (.aload_n 0, 1) := by decide +kernel
theorem dX12_begin_215 : decode cX12_begin 215 = .ok (.iload_n 1, 1) := by decide +kernel
theorem dX12_begin_216 : decode cX12_begin 216 = .ok (.putfield 155, 3) := by decide +kernel
theorem dX12_begin_219 : decode cX12_begin 219 = .ok (.aload_n 0, 1) := by decide +kernel
theorem dX12_begin_220 : decode cX12_begin 220 = .ok (.iconst 0, 1) := by decide +kernel
theorem dX12_begin_221 : decode cX12_begin 221 = .ok (.putfield 291, 3) := by decide +kernel
theorem dX12_begin_224 : decode cX12_begin 224 = .ok (.iload_n 2, 1) := by decide +kernel
theorem dX12_begin_225 : decode cX12_begin 225 = .ok (.ireturn, 1) := by decide +kernel
theorem dX12_isUpFrom_0 : decode cX12_isUpFrom 0 = .ok (.iload_n 2, 1) := by decide +kernel
theorem dX12_isUpFrom_1 : decode cX12_isUpFrom 1 = .ok (.istore_n 3, 1) := by decide +kernel
theorem dX12_isUpFrom_2 : decode cX12_isUpFrom 2 = .ok (.aload_n 0, 1) := by decide +kernel
theorem dX12_isUpFrom_3 : decode cX12_isUpFrom 3 = .ok (.getfield 50, 3) := by decide +kernel
theorem dX12_isUpFrom_6 : decode cX12_isUpFrom 6 = .ok (.iload_n 3, 1) := by decide +kernel
theorem dX12_isUpFrom_7 : decode cX12_isUpFrom 7 = .ok (.iaload, 1) := by decide +kernel
theorem dX12_isUpFrom_8 : decode cX12_isUpFrom 8 = .ok (.bipush (-9), 2) := by decide +kernel
theorem dX12_isUpFrom_10 : decode cX12_isUpFrom 10 = .ok (.if_icmp .eq 17, 3) := by decide +kernel
theorem dX12_isUpFrom_13 : decode cX12_isUpFrom 13 = .ok (.aload_n 0, 1) := by decide +kernel
theorem dX12_isUpFrom_14 : decode cX12_isUpFrom 14 = .ok (.getfield 53, 3) := by decide +kernel
theorem dX12_isUpFrom_17 : decode cX12_isUpFrom 17 = .ok (.iload_n 3, 1) := by decide +kernel
theorem dX12_isUpFrom_18 : decode cX12_isUpFrom 18 = .ok (.iaload, 1) := by decide +kernel
theorem dX12_isUpFrom_19 : decode cX12_isUpFrom 19 = .ok (.istore_n 3, 1) := by decide +kernel
theorem dX12_isUpFrom_20 : decode cX12_isUpFrom 20 = .ok (.iload_n 3, 1) := by decide +kernel
theorem dX12_isUpFrom_21 : decode cX12_isUpFrom 21 = .ok (.iload_n 1, 1) := by decide +kernel
theorem dX12_isUpFrom_22 : decode cX12_isUpFrom 22 = .ok (.if_icmp .ne (-20), 3) := by decide +kernel
theorem dX12_isUpFrom_25 : decode cX12_isUpFrom 25 = .ok (.iconst 1, 1) := by decide +kernel
theorem dX12_isUpFrom_26 : decode cX12_isUpFrom 26 = .ok (.ireturn, 1) := by decide +kernel
theorem dX12_isUpFrom_27 : decode cX12_isUpFrom 27 = .ok (.iconst 0, 1) := by decide +kernel
theorem dX12_isUpFrom_28 : decode cX12_isUpFrom 28 = .ok (.ireturn, 1) := by decide +kernel
theorem dX12_holds_0 : decode cX12_holds 0 = .ok (.aload_n 0, 1) := by decide +kernel
theorem dX12_holds_1 : decode cX12_holds 1 = .ok (.getfield 50, 3) := by decide +kernel
theorem dX12_holds_4 : decode cX12_holds 4 = .ok (.iload_n 1, 1) := by decide +kernel
theorem dX12_holds_5 : decode cX12_holds 5 = .ok (.iaload, 1) := by decide +kernel
theorem dX12_holds_6 : decode cX12_holds 6 = .ok (.iconst 2, 1) := by decide +kernel
theorem dX12_holds_7 : decode cX12_holds 7 = .ok (.if_icmp .ne 20, 3) := by decide +kernel
theorem dX12_holds_10 : decode cX12_holds 10 = .ok (.aload_n 0, 1) := by decide +kernel
theorem dX12_holds_11 : decode cX12_holds 11 = .ok (.getfield 53, 3) := by decide +kernel
theorem dX12_holds_14 : decode cX12_holds 14 = .ok (.iload_n 1, 1) := by decide +kernel
theorem dX12_holds_15 : decode cX12_holds 15 = .ok (.iaload, 1) := by decide +kernel
theorem dX12_holds_16 : decode cX12_holds 16 = .ok (.aload_n 0, 1) := by decide +kernel
theorem dX12_holds_17 : decode cX12_holds 17 = .ok (.getfield 155, 3) := by decide +kernel
theorem dX12_holds_20 : decode cX12_holds 20 = .ok (.if_icmp .ne 7, 3) := by decide +kernel
theorem dX12_holds_23 : decode cX12_holds 23 = .ok (.iconst 1, 1) := by decide +kernel
theorem dX12_holds_24 : decode cX12_holds 24 = .ok (.goto 4, 3) := by decide +kernel
theorem dX12_holds_27 : decode cX12_holds 27 = .ok (.iconst 0, 1) := by decide +kernel
theorem dX12_holds_28 : decode cX12_holds 28 = .ok (.ireturn, 1) := by decide +kernel
theorem dX12_lying_0 : decode cX12_lying 0 = .ok (.iconst 0, 1) := by decide +kernel
theorem dX12_lying_1 : decode cX12_lying 1 = .ok (.istore_n 3, 1) := by decide +kernel
theorem dX12_lying_2 : decode cX12_lying 2 = .ok (.iconst 0, 1) := by decide +kernel
theorem dX12_lying_3 : decode cX12_lying 3 = .ok (.istore 4, 2) := by decide +kernel
theorem dX12_lying_5 : decode cX12_lying 5 = .ok (.iload 4, 2) := by decide +kernel
theorem dX12_lying_7 : decode cX12_lying 7 = .ok (.aload_n 0, 1) := by decide +kernel
theorem dX12_lying_8 : decode cX12_lying 8 = .ok (.getfield 177, 3) := by decide +kernel
theorem dX12_lying_11 : decode cX12_lying 11 = .ok (.if_icmp .ge 39, 3) := by decide +kernel
theorem dX12_lying_14 : decode cX12_lying 14 = .ok (.iload_n 3, 1) := by decide +kernel
theorem dX12_lying_15 : decode cX12_lying 15 = .ok (.aload_n 0, 1) := by decide +kernel
theorem dX12_lying_16 : decode cX12_lying 16 = .ok (.getfield 50, 3) := by decide +kernel
theorem dX12_lying_19 : decode cX12_lying 19 = .ok (.iload 4, 2) := by decide +kernel
theorem dX12_lying_21 : decode cX12_lying 21 = .ok (.iaload, 1) := by decide +kernel
theorem dX12_lying_22 : decode cX12_lying 22 = .ok (.iload_n 1, 1) := by decide +kernel
theorem dX12_lying_23 : decode cX12_lying 23 = .ok (.if_icmp .ne 18, 3) := by decide +kernel
theorem dX12_lying_26 : decode cX12_lying 26 = .ok (.aload_n 0, 1) := by decide +kernel
theorem dX12_lying_27 : decode cX12_lying 27 = .ok (.getfield 53, 3) := by decide +kernel
theorem dX12_lying_30 : decode cX12_lying 30 = .ok (.iload 4, 2) := by decide +kernel
theorem dX12_lying_32 : decode cX12_lying 32 = .ok (.iaload, 1) := by decide +kernel
theorem dX12_lying_33 : decode cX12_lying 33 = .ok (.iload_n 2, 1) := by decide +kernel
theorem dX12_lying_34 : decode cX12_lying 34 = .ok (.if_icmp .ne 7, 3) := by decide +kernel
theorem dX12_lying_37 : decode cX12_lying 37 = .ok (.iconst 1, 1) := by decide +kernel
theorem dX12_lying_38 : decode cX12_lying 38 = .ok (.goto 4, 3) := by decide +kernel
theorem dX12_lying_41 : decode cX12_lying 41 = .ok (.iconst 0, 1) := by decide +kernel
theorem dX12_lying_42 : decode cX12_lying 42 = .ok (.iadd, 1) := by decide +kernel
theorem dX12_lying_43 : decode cX12_lying 43 = .ok (.istore_n 3, 1) := by decide +kernel
theorem dX12_lying_44 : decode cX12_lying 44 = .ok (.iinc 4 1, 3) := by decide +kernel
theorem dX12_lying_47 : decode cX12_lying 47 = .ok (.goto (-42), 3) := by decide +kernel
theorem dX12_lying_50 : decode cX12_lying 50 = .ok (.iload_n 3, 1) := by decide +kernel
theorem dX12_lying_51 : decode cX12_lying 51 = .ok (.ireturn, 1) := by decide +kernel
theorem dX12_isInRoom_0 : decode cX12_isInRoom 0 = .ok (.aload_n 0, 1) := by decide +kernel
theorem dX12_isInRoom_1 : decode cX12_isInRoom 1 = .ok (.getfield 50, 3) := by decide +kernel
theorem dX12_isInRoom_4 : decode cX12_isInRoom 4 = .ok (.aload_n 0, 1) := by decide +kernel
theorem dX12_isInRoom_5 : decode cX12_isInRoom 5 = .ok (.getfield 155, 3) := by decide +kernel
theorem dX12_isInRoom_8 : decode cX12_isInRoom 8 = .ok (.iaload, 1) := by decide +kernel
theorem dX12_isInRoom_9 : decode cX12_isInRoom 9 = .ok (.ifCond .ne 24, 3) := by decide +kernel
theorem dX12_isInRoom_12 : decode cX12_isInRoom 12 = .ok (.aload_n 0, 1) := by decide +kernel
theorem dX12_isInRoom_13 : decode cX12_isInRoom 13 = .ok (.getfield 101, 3) := by decide +kernel
theorem dX12_isInRoom_16 : decode cX12_isInRoom 16 = .ok (.aload_n 0, 1) := by decide +kernel
theorem dX12_isInRoom_17 : decode cX12_isInRoom 17 = .ok (.getfield 53, 3) := by decide +kernel
theorem dX12_isInRoom_20 : decode cX12_isInRoom 20 = .ok (.aload_n 0, 1) := by decide +kernel
theorem dX12_isInRoom_21 : decode cX12_isInRoom 21 = .ok (.getfield 155, 3) := by decide +kernel
theorem dX12_isInRoom_24 : decode cX12_isInRoom 24 = .ok (.iaload, 1) := by decide +kernel
theorem dX12_isInRoom_25 : decode cX12_isInRoom 25 = .ok (.baload, 1) := by decide +kernel
theorem dX12_isInRoom_26 : decode cX12_isInRoom 26 = .ok (.ifCond .eq 7, 3) := by decide +kernel
theorem dX12_isInRoom_29 : decode cX12_isInRoom 29 = .ok (.iconst 1, 1) := by decide +kernel
theorem dX12_isInRoom_30 : decode cX12_isInRoom 30 = .ok (.goto 4, 3) := by decide +kernel
theorem dX12_isInRoom_33 : decode cX12_isInRoom 33 = .ok (.iconst 0, 1) := by decide +kernel
theorem dX12_isInRoom_34 : decode cX12_isInRoom 34 = .ok (.ireturn, 1) := by decide +kernel
theorem dX12_whyNotGo_0 : decode cX12_whyNotGo 0 = .ok (.aload_n 0, 1) := by decide +kernel
theorem dX12_whyNotGo_1 : decode cX12_whyNotGo 1 = .ok (.invokevirtual 348, 3) := by decide +kernel
theorem dX12_whyNotGo_4 : decode cX12_whyNotGo 4 = .ok (.ifCond .ne 5, 3) := by decide +kernel
theorem dX12_whyNotGo_7 : decode cX12_whyNotGo 7 = .ok (.iconst 1, 1) := by decide +kernel
theorem dX12_whyNotGo_8 : decode cX12_whyNotGo 8 = .ok (.ireturn, 1) := by decide +kernel
theorem dX12_whyNotGo_9 : decode cX12_whyNotGo 9 = .ok (.aload_n 0, 1) := by decide +kernel
theorem dX12_whyNotGo_10 : decode cX12_whyNotGo 10 = .ok (.aload_n 0, 1) := by decide +kernel
theorem dX12_whyNotGo_11 : decode cX12_whyNotGo 11 = .ok (.getfield 53, 3) := by decide +kernel
theorem dX12_whyNotGo_14 : decode cX12_whyNotGo 14 = .ok (.aload_n 0, 1) := by decide +kernel
theorem dX12_whyNotGo_15 : decode cX12_whyNotGo 15 = .ok (.getfield 155, 3) := by decide +kernel
theorem dX12_whyNotGo_18 : decode cX12_whyNotGo 18 = .ok (.iaload, 1) := by decide +kernel
theorem dX12_whyNotGo_19 : decode cX12_whyNotGo 19 = .ok (.iload_n 1, 1) := by decide +kernel
theorem dX12_whyNotGo_20 : decode cX12_whyNotGo 20 = .ok (.invokevirtual 281, 3) := by decide +kernel
theorem dX12_whyNotGo_23 : decode cX12_whyNotGo 23 = .ok (.ifCond .eq 12, 3) := by decide +kernel
theorem dX12_whyNotGo_26 : decode cX12_whyNotGo 26 = .ok (.aload_n 0, 1) := by decide +kernel
theorem dX12_whyNotGo_27 : decode cX12_whyNotGo 27 = .ok (.getfield 263, 3) := by decide +kernel
theorem dX12_whyNotGo_30 : decode cX12_whyNotGo 30 = .ok (.bipush (-9), 2) := by decide +kernel
theorem dX12_whyNotGo_32 : decode cX12_whyNotGo 32 = .ok (.if_icmp .ne 5, 3) := by decide +kernel
theorem dX12_whyNotGo_35 : decode cX12_whyNotGo 35 = .ok (.iconst 2, 1) := by decide +kernel
theorem dX12_whyNotGo_36 : decode cX12_whyNotGo 36 = .ok (.ireturn, 1) := by decide +kernel
theorem dX12_whyNotGo_37 : decode cX12_whyNotGo 37 = .ok (.aload_n 0, 1) := by decide +kernel
theorem dX12_whyNotGo_38 : decode cX12_whyNotGo 38 = .ok (.getfield 266, 3) := by decide +kernel
theorem dX12_whyNotGo_41 : decode cX12_whyNotGo 41 = .ok (.bipush (-9), 2) := by decide +kernel
theorem dX12_whyNotGo_43 : decode cX12_whyNotGo 43 = .ok (.if_icmp .eq 19, 3) := by decide +kernel
theorem dX12_whyNotGo_46 : decode cX12_whyNotGo 46 = .ok (.aload_n 0, 1) := by decide +kernel
theorem dX12_whyNotGo_47 : decode cX12_whyNotGo 47 = .ok (.getfield 56, 3) := by decide +kernel
theorem dX12_whyNotGo_50 : decode cX12_whyNotGo 50 = .ok (.aload_n 0, 1) := by decide +kernel
theorem dX12_whyNotGo_51 : decode cX12_whyNotGo 51 = .ok (.getfield 266, 3) := by decide +kernel
theorem dX12_whyNotGo_54 : decode cX12_whyNotGo 54 = .ok (.baload, 1) := by decide +kernel
theorem dX12_whyNotGo_55 : decode cX12_whyNotGo 55 = .ok (.ifCond .ne 7, 3) := by decide +kernel
theorem dX12_whyNotGo_58 : decode cX12_whyNotGo 58 = .ok (.iconst 3, 1) := by decide +kernel
theorem dX12_whyNotGo_59 : decode cX12_whyNotGo 59 = .ok (.goto 4, 3) := by decide +kernel
theorem dX12_whyNotGo_62 : decode cX12_whyNotGo 62 = .ok (.iconst 0, 1) := by decide +kernel
theorem dX12_whyNotGo_63 : decode cX12_whyNotGo 63 = .ok (.ireturn, 1) := by decide +kernel
theorem dX12_whyNotTake_0 : decode cX12_whyNotTake 0 = .ok (.aload_n 0, 1) := by decide +kernel
theorem dX12_whyNotTake_1 : decode cX12_whyNotTake 1 = .ok (.getfield 86, 3) := by decide +kernel
theorem dX12_whyNotTake_4 : decode cX12_whyNotTake 4 = .ok (.iload_n 1, 1) := by decide +kernel
theorem dX12_whyNotTake_5 : decode cX12_whyNotTake 5 = .ok (.baload, 1) := by decide +kernel
theorem dX12_whyNotTake_6 : decode cX12_whyNotTake 6 = .ok (.ifCond .ne 5, 3) := by decide +kernel
theorem dX12_whyNotTake_9 : decode cX12_whyNotTake 9 = .ok (.iconst 4, 1) := by decide +kernel
theorem dX12_whyNotTake_10 : decode cX12_whyNotTake 10 = .ok (.ireturn, 1) := by decide +kernel
theorem dX12_whyNotTake_11 : decode cX12_whyNotTake 11 = .ok (.iload_n 1, 1) := by decide +kernel
theorem dX12_whyNotTake_12 : decode cX12_whyNotTake 12 = .ok (.aload_n 0, 1) := by decide +kernel
theorem dX12_whyNotTake_13 : decode cX12_whyNotTake 13 = .ok (.getfield 155, 3) := by decide +kernel
theorem dX12_whyNotTake_16 : decode cX12_whyNotTake 16 = .ok (.if_icmp .eq 15, 3) := by decide +kernel
theorem dX12_whyNotTake_19 : decode cX12_whyNotTake 19 = .ok (.aload_n 0, 1) := by decide +kernel
theorem dX12_whyNotTake_20 : decode cX12_whyNotTake 20 = .ok (.iload_n 1, 1) := by decide +kernel
theorem dX12_whyNotTake_21 : decode cX12_whyNotTake 21 = .ok (.aload_n 0, 1) := by decide +kernel
theorem dX12_whyNotTake_22 : decode cX12_whyNotTake 22 = .ok (.getfield 155, 3) := by decide +kernel
theorem dX12_whyNotTake_25 : decode cX12_whyNotTake 25 = .ok (.invokevirtual 352, 3) := by decide +kernel
theorem dX12_whyNotTake_28 : decode cX12_whyNotTake 28 = .ok (.ifCond .eq 5, 3) := by decide +kernel
theorem dX12_whyNotTake_31 : decode cX12_whyNotTake 31 = .ok (.iconst 5, 1) := by decide +kernel
theorem dX12_whyNotTake_32 : decode cX12_whyNotTake 32 = .ok (.ireturn, 1) := by decide +kernel
theorem dX12_whyNotTake_33 : decode cX12_whyNotTake 33 = .ok (.aload_n 0, 1) := by decide +kernel
theorem dX12_whyNotTake_34 : decode cX12_whyNotTake 34 = .ok (.iload_n 1, 1) := by decide +kernel
theorem dX12_whyNotTake_35 : decode cX12_whyNotTake 35 = .ok (.invokevirtual 355, 3) := by decide +kernel
theorem dX12_whyNotTake_38 : decode cX12_whyNotTake 38 = .ok (.ifCond .eq 6, 3) := by decide +kernel
theorem dX12_whyNotTake_41 : decode cX12_whyNotTake 41 = .ok (.bipush 6, 2) := by decide +kernel
theorem dX12_whyNotTake_43 : decode cX12_whyNotTake 43 = .ok (.ireturn, 1) := by decide +kernel
theorem dX12_whyNotTake_44 : decode cX12_whyNotTake 44 = .ok (.aload_n 0, 1) := by decide +kernel
theorem dX12_whyNotTake_45 : decode cX12_whyNotTake 45 = .ok (.iload_n 1, 1) := by decide +kernel
theorem dX12_whyNotTake_46 : decode cX12_whyNotTake 46 = .ok (.invokevirtual 194, 3) := by decide +kernel
theorem dX12_whyNotTake_49 : decode cX12_whyNotTake 49 = .ok (.ifCond .eq 23, 3) := by decide +kernel
theorem dX12_whyNotTake_52 : decode cX12_whyNotTake 52 = .ok (.aload_n 0, 1) := by decide +kernel
theorem dX12_whyNotTake_53 : decode cX12_whyNotTake 53 = .ok (.iload_n 1, 1) := by decide +kernel
theorem dX12_whyNotTake_54 : decode cX12_whyNotTake 54 = .ok (.iconst 3, 1) := by decide +kernel
theorem dX12_whyNotTake_55 : decode cX12_whyNotTake 55 = .ok (.invokevirtual 256, 3) := by decide +kernel
theorem dX12_whyNotTake_58 : decode cX12_whyNotTake 58 = .ok (.iconst 1, 1) := by decide +kernel
theorem dX12_whyNotTake_59 : decode cX12_whyNotTake 59 = .ok (.if_icmp .eq 13, 3) := by decide +kernel
theorem dX12_whyNotTake_62 : decode cX12_whyNotTake 62 = .ok (.aload_n 0, 1) := by decide +kernel
theorem dX12_whyNotTake_63 : decode cX12_whyNotTake 63 = .ok (.getfield 50, 3) := by decide +kernel
theorem dX12_whyNotTake_66 : decode cX12_whyNotTake 66 = .ok (.iload_n 1, 1) := by decide +kernel
theorem dX12_whyNotTake_67 : decode cX12_whyNotTake 67 = .ok (.iaload, 1) := by decide +kernel
theorem dX12_whyNotTake_68 : decode cX12_whyNotTake 68 = .ok (.iconst 4, 1) := by decide +kernel
theorem dX12_whyNotTake_69 : decode cX12_whyNotTake 69 = .ok (.if_icmp .ne 6, 3) := by decide +kernel
theorem dX12_whyNotTake_72 : decode cX12_whyNotTake 72 = .ok (.bipush 7, 2) := by decide +kernel
theorem dX12_whyNotTake_74 : decode cX12_whyNotTake 74 = .ok (.ireturn, 1) := by decide +kernel
theorem dX12_whyNotTake_75 : decode cX12_whyNotTake 75 = .ok (.aload_n 0, 1) := by decide +kernel
theorem dX12_whyNotTake_76 : decode cX12_whyNotTake 76 = .ok (.getfield 89, 3) := by decide +kernel
theorem dX12_whyNotTake_79 : decode cX12_whyNotTake 79 = .ok (.iload_n 1, 1) := by decide +kernel
theorem dX12_whyNotTake_80 : decode cX12_whyNotTake 80 = .ok (.baload, 1) := by decide +kernel
theorem dX12_whyNotTake_81 : decode cX12_whyNotTake 81 = .ok (.ifCond .ne 6, 3) := by decide +kernel
theorem dX12_whyNotTake_84 : decode cX12_whyNotTake 84 = .ok (.bipush 8, 2) := by decide +kernel
theorem dX12_whyNotTake_86 : decode cX12_whyNotTake 86 = .ok (.ireturn, 1) := by decide +kernel
theorem dX12_whyNotTake_87 : decode cX12_whyNotTake 87 = .ok (.iload_n 1, 1) := by decide +kernel
theorem dX12_whyNotTake_88 : decode cX12_whyNotTake 88 = .ok (.istore_n 2, 1) := by decide +kernel
theorem dX12_whyNotTake_89 : decode cX12_whyNotTake 89 = .ok (.aload_n 0, 1) := by decide +kernel
theorem dX12_whyNotTake_90 : decode cX12_whyNotTake 90 = .ok (.getfield 50, 3) := by decide +kernel
theorem dX12_whyNotTake_93 : decode cX12_whyNotTake 93 = .ok (.iload_n 2, 1) := by decide +kernel
theorem dX12_whyNotTake_94 : decode cX12_whyNotTake 94 = .ok (.iaload, 1) := by decide +kernel
theorem dX12_whyNotTake_95 : decode cX12_whyNotTake 95 = .ok (.bipush (-9), 2) := by decide +kernel
theorem dX12_whyNotTake_97 : decode cX12_whyNotTake 97 = .ok (.if_icmp .eq 43, 3) := by decide +kernel
theorem dX12_whyNotTake_100 : decode cX12_whyNotTake 100 = .ok (.aload_n 0, 1) := by decide +kernel
theorem dX12_whyNotTake_101 : decode cX12_whyNotTake 101 = .ok (.aload_n 0, 1) := by decide +kernel
theorem dX12_whyNotTake_102 : decode cX12_whyNotTake 102 = .ok (.getfield 53, 3) := by decide +kernel
theorem dX12_whyNotTake_105 : decode cX12_whyNotTake 105 = .ok (.iload_n 2, 1) := by decide +kernel
theorem dX12_whyNotTake_106 : decode cX12_whyNotTake 106 = .ok (.iaload, 1) := by decide +kernel
theorem dX12_whyNotTake_107 : decode cX12_whyNotTake 107 = .ok (.iconst 5, 1) := by decide +kernel
theorem dX12_whyNotTake_108 : decode cX12_whyNotTake 108 = .ok (.invokevirtual 184, 3) := by decide +kernel
theorem dX12_whyNotTake_111 : decode cX12_whyNotTake 111 = .ok (.ifCond .eq 19, 3) := by decide +kernel
theorem dX12_whyNotTake_114 : decode cX12_whyNotTake 114 = .ok (.aload_n 0, 1) := by decide +kernel
theorem dX12_whyNotTake_115 : decode cX12_whyNotTake 115 = .ok (.getfield 53, 3) := by decide +kernel
theorem dX12_whyNotTake_118 : decode cX12_whyNotTake 118 = .ok (.iload_n 2, 1) := by decide +kernel
theorem dX12_whyNotTake_119 : decode cX12_whyNotTake 119 = .ok (.iaload, 1) := by decide +kernel
theorem dX12_whyNotTake_120 : decode cX12_whyNotTake 120 = .ok (.aload_n 0, 1) := by decide +kernel
theorem dX12_whyNotTake_121 : decode cX12_whyNotTake 121 = .ok (.getfield 155, 3) := by decide +kernel
theorem dX12_whyNotTake_124 : decode cX12_whyNotTake 124 = .ok (.if_icmp .eq 6, 3) := by decide +kernel
theorem dX12_whyNotTake_127 : decode cX12_whyNotTake 127 = .ok (.bipush 9, 2) := by decide +kernel
theorem dX12_whyNotTake_129 : decode cX12_whyNotTake 129 = .ok (.ireturn, 1) := by decide +kernel
theorem dX12_whyNotTake_130 : decode cX12_whyNotTake 130 = .ok (.aload_n 0, 1) := by decide +kernel
theorem dX12_whyNotTake_131 : decode cX12_whyNotTake 131 = .ok (.getfield 53, 3) := by decide +kernel
theorem dX12_whyNotTake_134 : decode cX12_whyNotTake 134 = .ok (.iload_n 2, 1) := by decide +kernel
theorem dX12_whyNotTake_135 : decode cX12_whyNotTake 135 = .ok (.iaload, 1) := by decide +kernel
theorem dX12_whyNotTake_136 : decode cX12_whyNotTake 136 = .ok (.istore_n 2, 1) := by decide +kernel
theorem dX12_whyNotTake_137 : decode cX12_whyNotTake 137 = .ok (.goto (-48), 3) := by decide +kernel
theorem dX12_whyNotTake_140 : decode cX12_whyNotTake 140 = .ok (.aload_n 0, 1) := by decide +kernel
theorem dX12_whyNotTake_141 : decode cX12_whyNotTake 141 = .ok (.iload_n 1, 1) := by decide +kernel
theorem dX12_whyNotTake_142 : decode cX12_whyNotTake 142 = .ok (.invokevirtual 315, 3) := by decide +kernel
theorem dX12_whyNotTake_145 : decode cX12_whyNotTake 145 = .ok (.istore_n 2, 1) := by decide +kernel
theorem dX12_whyNotTake_146 : decode cX12_whyNotTake 146 = .ok (.iconst 0, 1) := by decide +kernel
theorem dX12_whyNotTake_147 : decode cX12_whyNotTake 147 = .ok (.istore_n 3, 1) := by decide +kernel
theorem dX12_whyNotTake_148 : decode cX12_whyNotTake 148 = .ok (.iload_n 3, 1) := by decide +kernel
theorem dX12_whyNotTake_149 : decode cX12_whyNotTake 149 = .ok (.aload_n 0, 1) := by decide +kernel
theorem dX12_whyNotTake_150 : decode cX12_whyNotTake 150 = .ok (.getfield 177, 3) := by decide +kernel
theorem dX12_whyNotTake_153 : decode cX12_whyNotTake 153 = .ok (.if_icmp .ge 29, 3) := by decide +kernel
theorem dX12_whyNotTake_156 : decode cX12_whyNotTake 156 = .ok (.iload_n 2, 1) := by decide +kernel
theorem dX12_whyNotTake_157 : decode cX12_whyNotTake 157 = .ok (.aload_n 0, 1) := by decide +kernel
theorem dX12_whyNotTake_158 : decode cX12_whyNotTake 158 = .ok (.iload_n 3, 1) := by decide +kernel
theorem dX12_whyNotTake_159 : decode cX12_whyNotTake 159 = .ok (.invokevirtual 355, 3) := by decide +kernel
theorem dX12_whyNotTake_162 : decode cX12_whyNotTake 162 = .ok (.ifCond .eq 11, 3) := by decide +kernel
theorem dX12_whyNotTake_165 : decode cX12_whyNotTake 165 = .ok (.aload_n 0, 1) := by decide +kernel
theorem dX12_whyNotTake_166 : decode cX12_whyNotTake 166 = .ok (.iload_n 3, 1) := by decide +kernel
theorem dX12_whyNotTake_167 : decode cX12_whyNotTake 167 = .ok (.invokevirtual 315, 3) := by decide +kernel
theorem dX12_whyNotTake_170 : decode cX12_whyNotTake 170 = .ok (.goto 4, 3) := by decide +kernel
theorem dX12_whyNotTake_173 : decode cX12_whyNotTake 173 = .ok (.iconst 0, 1) := by decide +kernel
theorem dX12_whyNotTake_174 : decode cX12_whyNotTake 174 = .ok (.iadd, 1) := by decide +kernel
theorem dX12_whyNotTake_175 : decode cX12_whyNotTake 175 = .ok (.istore_n 2, 1) := by decide +kernel
theorem dX12_whyNotTake_176 : decode cX12_whyNotTake 176 = .ok (.iinc 3 1, 3) := by decide +kernel
theorem dX12_whyNotTake_179 : decode cX12_whyNotTake 179 = .ok (.goto (-31), 3) := by decide +kernel
theorem dX12_whyNotTake_182 : decode cX12_whyNotTake 182 = .ok (.iload_n 2, 1) := by decide +kernel
theorem dX12_whyNotTake_183 : decode cX12_whyNotTake 183 = .ok (.bipush 100, 2) := by decide +kernel
theorem dX12_whyNotTake_185 : decode cX12_whyNotTake 185 = .ok (.if_icmp .le 8, 3) := by decide +kernel
theorem dX12_whyNotTake_188 : decode cX12_whyNotTake 188 = .ok (.bipush 10, 2) := by decide +kernel
theorem dX12_whyNotTake_190 : decode cX12_whyNotTake 190 = .ok (.goto 4, 3) := by decide +kernel
theorem dX12_whyNotTake_193 : decode cX12_whyNotTake 193 = .ok (.iconst 0, 1) := by decide +kernel
theorem dX12_whyNotTake_194 : decode cX12_whyNotTake 194 = .ok (.ireturn, 1) := by decide +kernel
theorem dX12_whyNotPut_0 : decode cX12_whyNotPut 0 = .ok (.aload_n 0, 1) := by decide +kernel
theorem dX12_whyNotPut_1 : decode cX12_whyNotPut 1 = .ok (.iload_n 1, 1) := by decide +kernel
theorem dX12_whyNotPut_2 : decode cX12_whyNotPut 2 = .ok (.invokevirtual 355, 3) := by decide +kernel
theorem dX12_whyNotPut_5 : decode cX12_whyNotPut 5 = .ok (.ifCond .ne 6, 3) := by decide +kernel
theorem dX12_whyNotPut_8 : decode cX12_whyNotPut 8 = .ok (.bipush 11, 2) := by decide +kernel
theorem dX12_whyNotPut_10 : decode cX12_whyNotPut 10 = .ok (.ireturn, 1) := by decide +kernel
theorem dX12_whyNotPut_11 : decode cX12_whyNotPut 11 = .ok (.aload_n 0, 1) := by decide +kernel
theorem dX12_whyNotPut_12 : decode cX12_whyNotPut 12 = .ok (.getfield 86, 3) := by decide +kernel
theorem dX12_whyNotPut_15 : decode cX12_whyNotPut 15 = .ok (.iload_n 2, 1) := by decide +kernel
theorem dX12_whyNotPut_16 : decode cX12_whyNotPut 16 = .ok (.baload, 1) := by decide +kernel
theorem dX12_whyNotPut_17 : decode cX12_whyNotPut 17 = .ok (.ifCond .ne 5, 3) := by decide +kernel
theorem dX12_whyNotPut_20 : decode cX12_whyNotPut 20 = .ok (.iconst 4, 1) := by decide +kernel
theorem dX12_whyNotPut_21 : decode cX12_whyNotPut 21 = .ok (.ireturn, 1) := by decide +kernel
theorem dX12_whyNotPut_22 : decode cX12_whyNotPut 22 = .ok (.iload_n 3, 1) := by decide +kernel
theorem dX12_whyNotPut_23 : decode cX12_whyNotPut 23 = .ok (.ifCond .eq 15, 3) := by decide +kernel
theorem dX12_whyNotPut_26 : decode cX12_whyNotPut 26 = .ok (.aload_n 0, 1) := by decide +kernel
theorem dX12_whyNotPut_27 : decode cX12_whyNotPut 27 = .ok (.getfield 98, 3) := by decide +kernel
theorem dX12_whyNotPut_30 : decode cX12_whyNotPut 30 = .ok (.iload_n 2, 1) := by decide +kernel
theorem dX12_whyNotPut_31 : decode cX12_whyNotPut 31 = .ok (.baload, 1) := by decide +kernel
theorem dX12_whyNotPut_32 : decode cX12_whyNotPut 32 = .ok (.ifCond .ne 18, 3) := by decide +kernel
theorem dX12_whyNotPut_35 : decode cX12_whyNotPut 35 = .ok (.goto 12, 3) := by decide +kernel
theorem dX12_whyNotPut_38 : decode cX12_whyNotPut 38 = .ok (.aload_n 0, 1) := by decide +kernel
theorem dX12_whyNotPut_39 : decode cX12_whyNotPut 39 = .ok (.iload_n 2, 1) := by decide +kernel
theorem dX12_whyNotPut_40 : decode cX12_whyNotPut 40 = .ok (.iconst 4, 1) := by decide +kernel
theorem dX12_whyNotPut_41 : decode cX12_whyNotPut 41 = .ok (.invokevirtual 184, 3) := by decide +kernel
theorem dX12_whyNotPut_44 : decode cX12_whyNotPut 44 = .ok (.ifCond .ne 6, 3) := by decide +kernel
theorem dX12_whyNotPut_47 : decode cX12_whyNotPut 47 = .ok (.bipush 12, 2) := by decide +kernel
theorem dX12_whyNotPut_49 : decode cX12_whyNotPut 49 = .ok (.ireturn, 1) := by decide +kernel
theorem dX12_whyNotPut_50 : decode cX12_whyNotPut 50 = .ok (.iload_n 1, 1) := by decide +kernel
theorem dX12_whyNotPut_51 : decode cX12_whyNotPut 51 = .ok (.iload_n 2, 1) := by decide +kernel
theorem dX12_whyNotPut_52 : decode cX12_whyNotPut 52 = .ok (.if_icmp .eq 12, 3) := by decide +kernel
theorem dX12_whyNotPut_55 : decode cX12_whyNotPut 55 = .ok (.aload_n 0, 1) := by decide +kernel
theorem dX12_whyNotPut_56 : decode cX12_whyNotPut 56 = .ok (.iload_n 1, 1) := by decide +kernel
theorem dX12_whyNotPut_57 : decode cX12_whyNotPut 57 = .ok (.iload_n 2, 1) := by decide +kernel
theorem dX12_whyNotPut_58 : decode cX12_whyNotPut 58 = .ok (.invokevirtual 352, 3) := by decide +kernel
theorem dX12_whyNotPut_61 : decode cX12_whyNotPut 61 = .ok (.ifCond .eq 6, 3) := by decide +kernel
theorem dX12_whyNotPut_64 : decode cX12_whyNotPut 64 = .ok (.bipush 13, 2) := by decide +kernel
theorem dX12_whyNotPut_66 : decode cX12_whyNotPut 66 = .ok (.ireturn, 1) := by decide +kernel
theorem dX12_whyNotPut_67 : decode cX12_whyNotPut 67 = .ok (.iload_n 3, 1) := by decide +kernel
theorem dX12_whyNotPut_68 : decode cX12_whyNotPut 68 = .ok (.ifCond .eq 14, 3) := by decide +kernel
theorem dX12_whyNotPut_71 : decode cX12_whyNotPut 71 = .ok (.aload_n 0, 1) := by decide +kernel
theorem dX12_whyNotPut_72 : decode cX12_whyNotPut 72 = .ok (.getfield 56, 3) := by decide +kernel
theorem dX12_whyNotPut_75 : decode cX12_whyNotPut 75 = .ok (.iload_n 2, 1) := by decide +kernel
theorem dX12_whyNotPut_76 : decode cX12_whyNotPut 76 = .ok (.baload, 1) := by decide +kernel
theorem dX12_whyNotPut_77 : decode cX12_whyNotPut 77 = .ok (.ifCond .ne 5, 3) := by decide +kernel
theorem dX12_whyNotPut_80 : decode cX12_whyNotPut 80 = .ok (.iconst 3, 1) := by decide +kernel
theorem dX12_whyNotPut_81 : decode cX12_whyNotPut 81 = .ok (.ireturn, 1) := by decide +kernel
theorem dX12_whyNotPut_82 : decode cX12_whyNotPut 82 = .ok (.aload_n 0, 1) := by decide +kernel
theorem dX12_whyNotPut_83 : decode cX12_whyNotPut 83 = .ok (.getfield 89, 3) := by decide +kernel
theorem dX12_whyNotPut_86 : decode cX12_whyNotPut 86 = .ok (.iload_n 2, 1) := by decide +kernel
theorem dX12_whyNotPut_87 : decode cX12_whyNotPut 87 = .ok (.baload, 1) := by decide +kernel
theorem dX12_whyNotPut_88 : decode cX12_whyNotPut 88 = .ok (.ifCond .ne 6, 3) := by decide +kernel
theorem dX12_whyNotPut_91 : decode cX12_whyNotPut 91 = .ok (.bipush 8, 2) := by decide +kernel
theorem dX12_whyNotPut_93 : decode cX12_whyNotPut 93 = .ok (.ireturn, 1) := by decide +kernel
theorem dX12_whyNotPut_94 : decode cX12_whyNotPut 94 = .ok (.aload_n 0, 1) := by decide +kernel
theorem dX12_whyNotPut_95 : decode cX12_whyNotPut 95 = .ok (.iload_n 3, 1) := by decide +kernel
theorem dX12_whyNotPut_96 : decode cX12_whyNotPut 96 = .ok (.ifCond .eq 7, 3) := by decide +kernel
theorem dX12_whyNotPut_99 : decode cX12_whyNotPut 99 = .ok (.iconst 0, 1) := by decide +kernel
theorem dX12_whyNotPut_100 : decode cX12_whyNotPut 100 = .ok (.goto 4, 3) := by decide +kernel
theorem dX12_whyNotPut_103 : decode cX12_whyNotPut 103 = .ok (.iconst 1, 1) := by decide +kernel
theorem dX12_whyNotPut_104 : decode cX12_whyNotPut 104 = .ok (.iload_n 2, 1) := by decide +kernel
theorem dX12_whyNotPut_105 : decode cX12_whyNotPut 105 = .ok (.invokevirtual 358, 3) := by decide +kernel
theorem dX12_whyNotPut_108 : decode cX12_whyNotPut 108 = .ok (.bipush 8, 2) := by decide +kernel
theorem dX12_whyNotPut_110 : decode cX12_whyNotPut 110 = .ok (.if_icmp .lt 8, 3) := by decide +kernel
theorem dX12_whyNotPut_113 : decode cX12_whyNotPut 113 = .ok (.bipush 14, 2) := by decide +kernel
theorem dX12_whyNotPut_115 : decode cX12_whyNotPut 115 = .ok (.goto 4, 3) := by decide +kernel
theorem dX12_whyNotPut_118 : decode cX12_whyNotPut 118 = .ok (.iconst 0, 1) := by decide +kernel
theorem dX12_whyNotPut_119 : decode cX12_whyNotPut 119 = .ok (.ireturn, 1) := by decide +kernel
theorem dX12_whyNotTurn_0 : decode cX12_whyNotTurn 0 = .ok (.aload_n 0, 1) := by decide +kernel
theorem dX12_whyNotTurn_1 : decode cX12_whyNotTurn 1 = .ok (.getfield 86, 3) := by decide +kernel
theorem dX12_whyNotTurn_4 : decode cX12_whyNotTurn 4 = .ok (.iload_n 2, 1) := by decide +kernel
theorem dX12_whyNotTurn_5 : decode cX12_whyNotTurn 5 = .ok (.baload, 1) := by decide +kernel
theorem dX12_whyNotTurn_6 : decode cX12_whyNotTurn 6 = .ok (.ifCond .ne 5, 3) := by decide +kernel
theorem dX12_whyNotTurn_9 : decode cX12_whyNotTurn 9 = .ok (.iconst 4, 1) := by decide +kernel
theorem dX12_whyNotTurn_10 : decode cX12_whyNotTurn 10 = .ok (.ireturn, 1) := by decide +kernel
theorem dX12_whyNotTurn_11 : decode cX12_whyNotTurn 11 = .ok (.aload_n 0, 1) := by decide +kernel
theorem dX12_whyNotTurn_12 : decode cX12_whyNotTurn 12 = .ok (.iload_n 2, 1) := by decide +kernel
theorem dX12_whyNotTurn_13 : decode cX12_whyNotTurn 13 = .ok (.invokevirtual 191, 3) := by decide +kernel
theorem dX12_whyNotTurn_16 : decode cX12_whyNotTurn 16 = .ok (.ifCond .ne 6, 3) := by decide +kernel
theorem dX12_whyNotTurn_19 : decode cX12_whyNotTurn 19 = .ok (.bipush 12, 2) := by decide +kernel
theorem dX12_whyNotTurn_21 : decode cX12_whyNotTurn 21 = .ok (.ireturn, 1) := by decide +kernel
theorem dX12_whyNotTurn_22 : decode cX12_whyNotTurn 22 = .ok (.iload_n 1, 1) := by decide +kernel
theorem dX12_whyNotTurn_23 : decode cX12_whyNotTurn 23 = .ok (.iconst 5, 1) := by decide +kernel
theorem dX12_whyNotTurn_24 : decode cX12_whyNotTurn 24 = .ok (.if_icmp .ne 15, 3) := by decide +kernel
theorem dX12_whyNotTurn_27 : decode cX12_whyNotTurn 27 = .ok (.aload_n 0, 1) := by decide +kernel
theorem dX12_whyNotTurn_28 : decode cX12_whyNotTurn 28 = .ok (.getfield 56, 3) := by decide +kernel
theorem dX12_whyNotTurn_31 : decode cX12_whyNotTurn 31 = .ok (.iload_n 2, 1) := by decide +kernel
theorem dX12_whyNotTurn_32 : decode cX12_whyNotTurn 32 = .ok (.baload, 1) := by decide +kernel
theorem dX12_whyNotTurn_33 : decode cX12_whyNotTurn 33 = .ok (.ifCond .eq 6, 3) := by decide +kernel
theorem dX12_whyNotTurn_36 : decode cX12_whyNotTurn 36 = .ok (.bipush 15, 2) := by decide +kernel
theorem dX12_whyNotTurn_38 : decode cX12_whyNotTurn 38 = .ok (.ireturn, 1) := by decide +kernel
theorem dX12_whyNotTurn_39 : decode cX12_whyNotTurn 39 = .ok (.iload_n 1, 1) := by decide +kernel
theorem dX12_whyNotTurn_40 : decode cX12_whyNotTurn 40 = .ok (.bipush 6, 2) := by decide +kernel
theorem dX12_whyNotTurn_42 : decode cX12_whyNotTurn 42 = .ok (.if_icmp .ne 14, 3) := by decide +kernel
theorem dX12_whyNotTurn_45 : decode cX12_whyNotTurn 45 = .ok (.aload_n 0, 1) := by decide +kernel
theorem dX12_whyNotTurn_46 : decode cX12_whyNotTurn 46 = .ok (.getfield 56, 3) := by decide +kernel
theorem dX12_whyNotTurn_49 : decode cX12_whyNotTurn 49 = .ok (.iload_n 2, 1) := by decide +kernel
theorem dX12_whyNotTurn_50 : decode cX12_whyNotTurn 50 = .ok (.baload, 1) := by decide +kernel
theorem dX12_whyNotTurn_51 : decode cX12_whyNotTurn 51 = .ok (.ifCond .ne 5, 3) := by decide +kernel
theorem dX12_whyNotTurn_54 : decode cX12_whyNotTurn 54 = .ok (.iconst 3, 1) := by decide +kernel
theorem dX12_whyNotTurn_55 : decode cX12_whyNotTurn 55 = .ok (.ireturn, 1) := by decide +kernel
theorem dX12_whyNotTurn_56 : decode cX12_whyNotTurn 56 = .ok (.iload_n 1, 1) := by decide +kernel
theorem dX12_whyNotTurn_57 : decode cX12_whyNotTurn 57 = .ok (.bipush 7, 2) := by decide +kernel
theorem dX12_whyNotTurn_59 : decode cX12_whyNotTurn 59 = .ok (.if_icmp .ne 15, 3) := by decide +kernel
theorem dX12_whyNotTurn_62 : decode cX12_whyNotTurn 62 = .ok (.aload_n 0, 1) := by decide +kernel
theorem dX12_whyNotTurn_63 : decode cX12_whyNotTurn 63 = .ok (.getfield 59, 3) := by decide +kernel
theorem dX12_whyNotTurn_66 : decode cX12_whyNotTurn 66 = .ok (.iload_n 2, 1) := by decide +kernel
theorem dX12_whyNotTurn_67 : decode cX12_whyNotTurn 67 = .ok (.baload, 1) := by decide +kernel
theorem dX12_whyNotTurn_68 : decode cX12_whyNotTurn 68 = .ok (.ifCond .ne 6, 3) := by decide +kernel
theorem dX12_whyNotTurn_71 : decode cX12_whyNotTurn 71 = .ok (.bipush 17, 2) := by decide +kernel
theorem dX12_whyNotTurn_73 : decode cX12_whyNotTurn 73 = .ok (.ireturn, 1) := by decide +kernel
theorem dX12_whyNotTurn_74 : decode cX12_whyNotTurn 74 = .ok (.iload_n 1, 1) := by decide +kernel
theorem dX12_whyNotTurn_75 : decode cX12_whyNotTurn 75 = .ok (.iconst 5, 1) := by decide +kernel
theorem dX12_whyNotTurn_76 : decode cX12_whyNotTurn 76 = .ok (.if_icmp .eq 9, 3) := by decide +kernel
theorem dX12_whyNotTurn_79 : decode cX12_whyNotTurn 79 = .ok (.iload_n 1, 1) := by decide +kernel
theorem dX12_whyNotTurn_80 : decode cX12_whyNotTurn 80 = .ok (.bipush 8, 2) := by decide +kernel
theorem dX12_whyNotTurn_82 : decode cX12_whyNotTurn 82 = .ok (.if_icmp .ne 15, 3) := by decide +kernel
theorem dX12_whyNotTurn_85 : decode cX12_whyNotTurn 85 = .ok (.aload_n 0, 1) := by decide +kernel
theorem dX12_whyNotTurn_86 : decode cX12_whyNotTurn 86 = .ok (.getfield 59, 3) := by decide +kernel
theorem dX12_whyNotTurn_89 : decode cX12_whyNotTurn 89 = .ok (.iload_n 2, 1) := by decide +kernel
theorem dX12_whyNotTurn_90 : decode cX12_whyNotTurn 90 = .ok (.baload, 1) := by decide +kernel
theorem dX12_whyNotTurn_91 : decode cX12_whyNotTurn 91 = .ok (.ifCond .eq 6, 3) := by decide +kernel
theorem dX12_whyNotTurn_94 : decode cX12_whyNotTurn 94 = .ok (.bipush 16, 2) := by decide +kernel
theorem dX12_whyNotTurn_96 : decode cX12_whyNotTurn 96 = .ok (.ireturn, 1) := by decide +kernel
theorem dX12_whyNotTurn_97 : decode cX12_whyNotTurn 97 = .ok (.iload_n 1, 1) := by decide +kernel
theorem dX12_whyNotTurn_98 : decode cX12_whyNotTurn 98 = .ok (.bipush 8, 2) := by decide +kernel
theorem dX12_whyNotTurn_100 : decode cX12_whyNotTurn 100 = .ok (.if_icmp .ne 15, 3) := by decide +kernel
theorem dX12_whyNotTurn_103 : decode cX12_whyNotTurn 103 = .ok (.aload_n 0, 1) := by decide +kernel
theorem dX12_whyNotTurn_104 : decode cX12_whyNotTurn 104 = .ok (.getfield 56, 3) := by decide +kernel
theorem dX12_whyNotTurn_107 : decode cX12_whyNotTurn 107 = .ok (.iload_n 2, 1) := by decide +kernel
theorem dX12_whyNotTurn_108 : decode cX12_whyNotTurn 108 = .ok (.baload, 1) := by decide +kernel
theorem dX12_whyNotTurn_109 : decode cX12_whyNotTurn 109 = .ok (.ifCond .eq 6, 3) := by decide +kernel
theorem dX12_whyNotTurn_112 : decode cX12_whyNotTurn 112 = .ok (.bipush 15, 2) := by decide +kernel
theorem dX12_whyNotTurn_114 : decode cX12_whyNotTurn 114 = .ok (.ireturn, 1) := by decide +kernel
theorem dX12_whyNotTurn_115 : decode cX12_whyNotTurn 115 = .ok (.aload_n 0, 1) := by decide +kernel
theorem dX12_whyNotTurn_116 : decode cX12_whyNotTurn 116 = .ok (.getfield 89, 3) := by decide +kernel
theorem dX12_whyNotTurn_119 : decode cX12_whyNotTurn 119 = .ok (.iload_n 2, 1) := by decide +kernel
theorem dX12_whyNotTurn_120 : decode cX12_whyNotTurn 120 = .ok (.baload, 1) := by decide +kernel
theorem dX12_whyNotTurn_121 : decode cX12_whyNotTurn 121 = .ok (.ifCond .ne 6, 3) := by decide +kernel
theorem dX12_whyNotTurn_124 : decode cX12_whyNotTurn 124 = .ok (.bipush 8, 2) := by decide +kernel
theorem dX12_whyNotTurn_126 : decode cX12_whyNotTurn 126 = .ok (.ireturn, 1) := by decide +kernel
theorem dX12_whyNotTurn_127 : decode cX12_whyNotTurn 127 = .ok (.iload_n 1, 1) := by decide +kernel
theorem dX12_whyNotTurn_128 : decode cX12_whyNotTurn 128 = .ok (.bipush 6, 2) := by decide +kernel
theorem dX12_whyNotTurn_130 : decode cX12_whyNotTurn 130 = .ok (.if_icmp .le 14, 3) := by decide +kernel
theorem dX12_whyNotTurn_133 : decode cX12_whyNotTurn 133 = .ok (.aload_n 0, 1) := by decide +kernel
theorem dX12_whyNotTurn_134 : decode cX12_whyNotTurn 134 = .ok (.iload_n 3, 1) := by decide +kernel
theorem dX12_whyNotTurn_135 : decode cX12_whyNotTurn 135 = .ok (.invokevirtual 355, 3) := by decide +kernel
theorem dX12_whyNotTurn_138 : decode cX12_whyNotTurn 138 = .ok (.ifCond .ne 6, 3) := by decide +kernel
theorem dX12_whyNotTurn_141 : decode cX12_whyNotTurn 141 = .ok (.bipush 11, 2) := by decide +kernel
theorem dX12_whyNotTurn_143 : decode cX12_whyNotTurn 143 = .ok (.ireturn, 1) := by decide +kernel
theorem dX12_whyNotTurn_144 : decode cX12_whyNotTurn 144 = .ok (.iload_n 1, 1) := by decide +kernel
theorem dX12_whyNotTurn_145 : decode cX12_whyNotTurn 145 = .ok (.bipush 6, 2) := by decide +kernel
theorem dX12_whyNotTurn_147 : decode cX12_whyNotTurn 147 = .ok (.if_icmp .le 17, 3) := by decide +kernel
theorem dX12_whyNotTurn_150 : decode cX12_whyNotTurn 150 = .ok (.aload_n 0, 1) := by decide +kernel
theorem dX12_whyNotTurn_151 : decode cX12_whyNotTurn 151 = .ok (.iload_n 2, 1) := by decide +kernel
theorem dX12_whyNotTurn_152 : decode cX12_whyNotTurn 152 = .ok (.invokevirtual 260, 3) := by decide +kernel
theorem dX12_whyNotTurn_155 : decode cX12_whyNotTurn 155 = .ok (.iload_n 3, 1) := by decide +kernel
theorem dX12_whyNotTurn_156 : decode cX12_whyNotTurn 156 = .ok (.if_icmp .eq 8, 3) := by decide +kernel
theorem dX12_whyNotTurn_159 : decode cX12_whyNotTurn 159 = .ok (.bipush 18, 2) := by decide +kernel
theorem dX12_whyNotTurn_161 : decode cX12_whyNotTurn 161 = .ok (.goto 4, 3) := by decide +kernel
theorem dX12_whyNotTurn_164 : decode cX12_whyNotTurn 164 = .ok (.iconst 0, 1) := by decide +kernel
theorem dX12_whyNotTurn_165 : decode cX12_whyNotTurn 165 = .ok (.ireturn, 1) := by decide +kernel
theorem dX12_whyNotEnter_0 : decode cX12_whyNotEnter 0 = .ok (.aload_n 0, 1) := by decide +kernel
theorem dX12_whyNotEnter_1 : decode cX12_whyNotEnter 1 = .ok (.getfield 86, 3) := by decide +kernel
theorem dX12_whyNotEnter_4 : decode cX12_whyNotEnter 4 = .ok (.iload_n 1, 1) := by decide +kernel
theorem dX12_whyNotEnter_5 : decode cX12_whyNotEnter 5 = .ok (.baload, 1) := by decide +kernel
theorem dX12_whyNotEnter_6 : decode cX12_whyNotEnter 6 = .ok (.ifCond .ne 5, 3) := by decide +kernel
theorem dX12_whyNotEnter_9 : decode cX12_whyNotEnter 9 = .ok (.iconst 4, 1) := by decide +kernel
theorem dX12_whyNotEnter_10 : decode cX12_whyNotEnter 10 = .ok (.ireturn, 1) := by decide +kernel
theorem dX12_whyNotEnter_11 : decode cX12_whyNotEnter 11 = .ok (.aload_n 0, 1) := by decide +kernel
theorem dX12_whyNotEnter_12 : decode cX12_whyNotEnter 12 = .ok (.getfield 98, 3) := by decide +kernel
theorem dX12_whyNotEnter_15 : decode cX12_whyNotEnter 15 = .ok (.iload_n 1, 1) := by decide +kernel
theorem dX12_whyNotEnter_16 : decode cX12_whyNotEnter 16 = .ok (.baload, 1) := by decide +kernel
theorem dX12_whyNotEnter_17 : decode cX12_whyNotEnter 17 = .ok (.ifCond .ne 15, 3) := by decide +kernel
theorem dX12_whyNotEnter_20 : decode cX12_whyNotEnter 20 = .ok (.aload_n 0, 1) := by decide +kernel
theorem dX12_whyNotEnter_21 : decode cX12_whyNotEnter 21 = .ok (.iload_n 1, 1) := by decide +kernel
theorem dX12_whyNotEnter_22 : decode cX12_whyNotEnter 22 = .ok (.iconst 4, 1) := by decide +kernel
theorem dX12_whyNotEnter_23 : decode cX12_whyNotEnter 23 = .ok (.invokevirtual 184, 3) := by decide +kernel
theorem dX12_whyNotEnter_26 : decode cX12_whyNotEnter 26 = .ok (.ifCond .ne 6, 3) := by decide +kernel
theorem dX12_whyNotEnter_29 : decode cX12_whyNotEnter 29 = .ok (.bipush 12, 2) := by decide +kernel
theorem dX12_whyNotEnter_31 : decode cX12_whyNotEnter 31 = .ok (.ireturn, 1) := by decide +kernel
theorem dX12_whyNotEnter_32 : decode cX12_whyNotEnter 32 = .ok (.aload_n 0, 1) := by decide +kernel
theorem dX12_whyNotEnter_33 : decode cX12_whyNotEnter 33 = .ok (.aload_n 0, 1) := by decide +kernel
theorem dX12_whyNotEnter_34 : decode cX12_whyNotEnter 34 = .ok (.getfield 155, 3) := by decide +kernel
theorem dX12_whyNotEnter_37 : decode cX12_whyNotEnter 37 = .ok (.iload_n 1, 1) := by decide +kernel
theorem dX12_whyNotEnter_38 : decode cX12_whyNotEnter 38 = .ok (.invokevirtual 352, 3) := by decide +kernel
theorem dX12_whyNotEnter_41 : decode cX12_whyNotEnter 41 = .ok (.ifCond .eq 6, 3) := by decide +kernel
theorem dX12_whyNotEnter_44 : decode cX12_whyNotEnter 44 = .ok (.bipush 13, 2) := by decide +kernel
theorem dX12_whyNotEnter_46 : decode cX12_whyNotEnter 46 = .ok (.ireturn, 1) := by decide +kernel
theorem dX12_whyNotEnter_47 : decode cX12_whyNotEnter 47 = .ok (.aload_n 0, 1) := by decide +kernel
theorem dX12_whyNotEnter_48 : decode cX12_whyNotEnter 48 = .ok (.getfield 98, 3) := by decide +kernel
theorem dX12_whyNotEnter_51 : decode cX12_whyNotEnter 51 = .ok (.iload_n 1, 1) := by decide +kernel
theorem dX12_whyNotEnter_52 : decode cX12_whyNotEnter 52 = .ok (.baload, 1) := by decide +kernel
theorem dX12_whyNotEnter_53 : decode cX12_whyNotEnter 53 = .ok (.ifCond .eq 14, 3) := by decide +kernel
theorem dX12_whyNotEnter_56 : decode cX12_whyNotEnter 56 = .ok (.aload_n 0, 1) := by decide +kernel
theorem dX12_whyNotEnter_57 : decode cX12_whyNotEnter 57 = .ok (.getfield 56, 3) := by decide +kernel
theorem dX12_whyNotEnter_60 : decode cX12_whyNotEnter 60 = .ok (.iload_n 1, 1) := by decide +kernel
theorem dX12_whyNotEnter_61 : decode cX12_whyNotEnter 61 = .ok (.baload, 1) := by decide +kernel
theorem dX12_whyNotEnter_62 : decode cX12_whyNotEnter 62 = .ok (.ifCond .ne 5, 3) := by decide +kernel
theorem dX12_whyNotEnter_65 : decode cX12_whyNotEnter 65 = .ok (.iconst 3, 1) := by decide +kernel
theorem dX12_whyNotEnter_66 : decode cX12_whyNotEnter 66 = .ok (.ireturn, 1) := by decide +kernel
theorem dX12_whyNotEnter_67 : decode cX12_whyNotEnter 67 = .ok (.aload_n 0, 1) := by decide +kernel
theorem dX12_whyNotEnter_68 : decode cX12_whyNotEnter 68 = .ok (.getfield 89, 3) := by decide +kernel
theorem dX12_whyNotEnter_71 : decode cX12_whyNotEnter 71 = .ok (.iload_n 1, 1) := by decide +kernel
theorem dX12_whyNotEnter_72 : decode cX12_whyNotEnter 72 = .ok (.baload, 1) := by decide +kernel
theorem dX12_whyNotEnter_73 : decode cX12_whyNotEnter 73 = .ok (.ifCond .ne 6, 3) := by decide +kernel
theorem dX12_whyNotEnter_76 : decode cX12_whyNotEnter 76 = .ok (.bipush 8, 2) := by decide +kernel
theorem dX12_whyNotEnter_78 : decode cX12_whyNotEnter 78 = .ok (.ireturn, 1) := by decide +kernel
theorem dX12_whyNotEnter_79 : decode cX12_whyNotEnter 79 = .ok (.aload_n 0, 1) := by decide +kernel
theorem dX12_whyNotEnter_80 : decode cX12_whyNotEnter 80 = .ok (.getfield 53, 3) := by decide +kernel
theorem dX12_whyNotEnter_83 : decode cX12_whyNotEnter 83 = .ok (.aload_n 0, 1) := by decide +kernel
theorem dX12_whyNotEnter_84 : decode cX12_whyNotEnter 84 = .ok (.getfield 155, 3) := by decide +kernel
theorem dX12_whyNotEnter_87 : decode cX12_whyNotEnter 87 = .ok (.iaload, 1) := by decide +kernel
theorem dX12_whyNotEnter_88 : decode cX12_whyNotEnter 88 = .ok (.iload_n 1, 1) := by decide +kernel
theorem dX12_whyNotEnter_89 : decode cX12_whyNotEnter 89 = .ok (.if_icmp .ne 8, 3) := by decide +kernel
theorem dX12_whyNotEnter_92 : decode cX12_whyNotEnter 92 = .ok (.bipush 20, 2) := by decide +kernel
theorem dX12_whyNotEnter_94 : decode cX12_whyNotEnter 94 = .ok (.goto 4, 3) := by decide +kernel
theorem dX12_whyNotEnter_97 : decode cX12_whyNotEnter 97 = .ok (.iconst 0, 1) := by decide +kernel
theorem dX12_whyNotEnter_98 : decode cX12_whyNotEnter 98 = .ok (.ireturn, 1) := by decide +kernel
theorem dX12_whyNotLeave_0 : decode cX12_whyNotLeave 0 = .ok (.aload_n 0, 1) := by decide +kernel
theorem dX12_whyNotLeave_1 : decode cX12_whyNotLeave 1 = .ok (.invokevirtual 348, 3) := by decide +kernel
theorem dX12_whyNotLeave_4 : decode cX12_whyNotLeave 4 = .ok (.ifCond .eq 5, 3) := by decide +kernel
theorem dX12_whyNotLeave_7 : decode cX12_whyNotLeave 7 = .ok (.iconst 1, 1) := by decide +kernel
theorem dX12_whyNotLeave_8 : decode cX12_whyNotLeave 8 = .ok (.ireturn, 1) := by decide +kernel
theorem dX12_whyNotLeave_9 : decode cX12_whyNotLeave 9 = .ok (.aload_n 0, 1) := by decide +kernel
theorem dX12_whyNotLeave_10 : decode cX12_whyNotLeave 10 = .ok (.getfield 53, 3) := by decide +kernel
theorem dX12_whyNotLeave_13 : decode cX12_whyNotLeave 13 = .ok (.aload_n 0, 1) := by decide +kernel
theorem dX12_whyNotLeave_14 : decode cX12_whyNotLeave 14 = .ok (.getfield 155, 3) := by decide +kernel
theorem dX12_whyNotLeave_17 : decode cX12_whyNotLeave 17 = .ok (.iaload, 1) := by decide +kernel
theorem dX12_whyNotLeave_18 : decode cX12_whyNotLeave 18 = .ok (.istore_n 1, 1) := by decide +kernel
theorem dX12_whyNotLeave_19 : decode cX12_whyNotLeave 19 = .ok (.aload_n 0, 1) := by decide +kernel
theorem dX12_whyNotLeave_20 : decode cX12_whyNotLeave 20 = .ok (.getfield 50, 3) := by decide +kernel
theorem dX12_whyNotLeave_23 : decode cX12_whyNotLeave 23 = .ok (.aload_n 0, 1) := by decide +kernel
theorem dX12_whyNotLeave_24 : decode cX12_whyNotLeave 24 = .ok (.getfield 155, 3) := by decide +kernel
theorem dX12_whyNotLeave_27 : decode cX12_whyNotLeave 27 = .ok (.iaload, 1) := by decide +kernel
theorem dX12_whyNotLeave_28 : decode cX12_whyNotLeave 28 = .ok (.ifCond .ne 23, 3) := by decide +kernel
theorem dX12_whyNotLeave_31 : decode cX12_whyNotLeave 31 = .ok (.aload_n 0, 1) := by decide +kernel
theorem dX12_whyNotLeave_32 : decode cX12_whyNotLeave 32 = .ok (.getfield 98, 3) := by decide +kernel
theorem dX12_whyNotLeave_35 : decode cX12_whyNotLeave 35 = .ok (.iload_n 1, 1) := by decide +kernel
theorem dX12_whyNotLeave_36 : decode cX12_whyNotLeave 36 = .ok (.baload, 1) := by decide +kernel
theorem dX12_whyNotLeave_37 : decode cX12_whyNotLeave 37 = .ok (.ifCond .eq 14, 3) := by decide +kernel
theorem dX12_whyNotLeave_40 : decode cX12_whyNotLeave 40 = .ok (.aload_n 0, 1) := by decide +kernel
theorem dX12_whyNotLeave_41 : decode cX12_whyNotLeave 41 = .ok (.getfield 56, 3) := by decide +kernel
theorem dX12_whyNotLeave_44 : decode cX12_whyNotLeave 44 = .ok (.iload_n 1, 1) := by decide +kernel
theorem dX12_whyNotLeave_45 : decode cX12_whyNotLeave 45 = .ok (.baload, 1) := by decide +kernel
theorem dX12_whyNotLeave_46 : decode cX12_whyNotLeave 46 = .ok (.ifCond .ne 5, 3) := by decide +kernel
theorem dX12_whyNotLeave_49 : decode cX12_whyNotLeave 49 = .ok (.iconst 3, 1) := by decide +kernel
theorem dX12_whyNotLeave_50 : decode cX12_whyNotLeave 50 = .ok (.ireturn, 1) := by decide +kernel
theorem dX12_whyNotLeave_51 : decode cX12_whyNotLeave 51 = .ok (.aload_n 0, 1) := by decide +kernel
theorem dX12_whyNotLeave_52 : decode cX12_whyNotLeave 52 = .ok (.getfield 50, 3) := by decide +kernel
theorem dX12_whyNotLeave_55 : decode cX12_whyNotLeave 55 = .ok (.iload_n 1, 1) := by decide +kernel
theorem dX12_whyNotLeave_56 : decode cX12_whyNotLeave 56 = .ok (.iaload, 1) := by decide +kernel
theorem dX12_whyNotLeave_57 : decode cX12_whyNotLeave 57 = .ok (.ifCond .eq 18, 3) := by decide +kernel
theorem dX12_whyNotLeave_60 : decode cX12_whyNotLeave 60 = .ok (.aload_n 0, 1) := by decide +kernel
theorem dX12_whyNotLeave_61 : decode cX12_whyNotLeave 61 = .ok (.getfield 50, 3) := by decide +kernel
theorem dX12_whyNotLeave_64 : decode cX12_whyNotLeave 64 = .ok (.iload_n 1, 1) := by decide +kernel
theorem dX12_whyNotLeave_65 : decode cX12_whyNotLeave 65 = .ok (.iaload, 1) := by decide +kernel
theorem dX12_whyNotLeave_66 : decode cX12_whyNotLeave 66 = .ok (.iconst 1, 1) := by decide +kernel
theorem dX12_whyNotLeave_67 : decode cX12_whyNotLeave 67 = .ok (.if_icmp .eq 8, 3) := by decide +kernel
theorem dX12_whyNotLeave_70 : decode cX12_whyNotLeave 70 = .ok (.bipush 21, 2) := by decide +kernel
theorem dX12_whyNotLeave_72 : decode cX12_whyNotLeave 72 = .ok (.goto 4, 3) := by decide +kernel
theorem dX12_whyNotLeave_75 : decode cX12_whyNotLeave 75 = .ok (.iconst 0, 1) := by decide +kernel
theorem dX12_whyNotLeave_76 : decode cX12_whyNotLeave 76 = .ok (.ireturn, 1) := by decide +kernel
theorem dX12_whyNot_0 : decode cX12_whyNot 0 = .ok (.iload_n 1, 1) := by decide +kernel
theorem dX12_whyNot_1 : decode cX12_whyNot 1 = .ok (.tableswitch 156 0 11 #[63, 69, 75, 90, 90, 107, 107, 107, 107, 115, 145, 151], 63) := by decide +kernel
theorem dX12_whyNot_64 : decode cX12_whyNot 64 = .ok (.aload_n 0, 1) := by decide +kernel
theorem dX12_whyNot_65 : decode cX12_whyNot 65 = .ok (.iload_n 2, 1) := by decide +kernel
theorem dX12_whyNot_66 : decode cX12_whyNot 66 = .ok (.invokevirtual 361, 3) := by decide +kernel
theorem dX12_whyNot_69 : decode cX12_whyNot 69 = .ok (.ireturn, 1) := by decide +kernel
theorem dX12_whyNot_70 : decode cX12_whyNot 70 = .ok (.aload_n 0, 1) := by decide +kernel
theorem dX12_whyNot_71 : decode cX12_whyNot 71 = .ok (.iload_n 2, 1) := by decide +kernel
theorem dX12_whyNot_72 : decode cX12_whyNot 72 = .ok (.invokevirtual 364, 3) := by decide +kernel
theorem dX12_whyNot_75 : decode cX12_whyNot 75 = .ok (.ireturn, 1) := by decide +kernel
theorem dX12_whyNot_76 : decode cX12_whyNot 76 = .ok (.aload_n 0, 1) := by decide +kernel
theorem dX12_whyNot_77 : decode cX12_whyNot 77 = .ok (.iload_n 2, 1) := by decide +kernel
theorem dX12_whyNot_78 : decode cX12_whyNot 78 = .ok (.invokevirtual 355, 3) := by decide +kernel
theorem dX12_whyNot_81 : decode cX12_whyNot 81 = .ok (.ifCond .eq 7, 3) := by decide +kernel
theorem dX12_whyNot_84 : decode cX12_whyNot 84 = .ok (.iconst 0, 1) := by decide +kernel
theorem dX12_whyNot_85 : decode cX12_whyNot 85 = .ok (.goto 5, 3) := by decide +kernel
theorem dX12_whyNot_88 : decode cX12_whyNot 88 = .ok (.bipush 11, 2) := by decide +kernel
theorem dX12_whyNot_90 : decode cX12_whyNot 90 = .ok (.ireturn, 1) := by decide +kernel
theorem dX12_whyNot_91 : decode cX12_whyNot 91 = .ok (.aload_n 0, 1) := by decide +kernel
theorem dX12_whyNot_92 : decode cX12_whyNot 92 = .ok (.iload_n 2, 1) := by decide +kernel
theorem dX12_whyNot_93 : decode cX12_whyNot 93 = .ok (.iload_n 3, 1) := by decide +kernel
theorem dX12_whyNot_94 : decode cX12_whyNot 94 = .ok (.iload_n 1, 1) := by decide +kernel
theorem dX12_whyNot_95 : decode cX12_whyNot 95 = .ok (.iconst 3, 1) := by decide +kernel
theorem dX12_whyNot_96 : decode cX12_whyNot 96 = .ok (.if_icmp .ne 7, 3) := by decide +kernel
theorem dX12_whyNot_99 : decode cX12_whyNot 99 = .ok (.iconst 1, 1) := by decide +kernel
theorem dX12_whyNot_100 : decode cX12_whyNot 100 = .ok (.goto 4, 3) := by decide +kernel
theorem dX12_whyNot_103 : decode cX12_whyNot 103 = .ok (.iconst 0, 1) := by decide +kernel
theorem dX12_whyNot_104 : decode cX12_whyNot 104 = .ok (.invokevirtual 367, 3) := by decide +kernel
theorem dX12_whyNot_107 : decode cX12_whyNot 107 = .ok (.ireturn, 1) := by decide +kernel
theorem dX12_whyNot_108 : decode cX12_whyNot 108 = .ok (.aload_n 0, 1) := by decide +kernel
theorem dX12_whyNot_109 : decode cX12_whyNot 109 = .ok (.iload_n 1, 1) := by decide +kernel
theorem dX12_whyNot_110 : decode cX12_whyNot 110 = .ok (.iload_n 2, 1) := by decide +kernel
theorem dX12_whyNot_111 : decode cX12_whyNot 111 = .ok (.iload_n 3, 1) := by decide +kernel
theorem dX12_whyNot_112 : decode cX12_whyNot 112 = .ok (.invokevirtual 371, 3) := by decide +kernel
theorem dX12_whyNot_115 : decode cX12_whyNot 115 = .ok (.ireturn, 1) := by decide +kernel
theorem dX12_whyNot_116 : decode cX12_whyNot 116 = .ok (.aload_n 0, 1) := by decide +kernel
theorem dX12_whyNot_117 : decode cX12_whyNot 117 = .ok (.iload_n 2, 1) := by decide +kernel
theorem dX12_whyNot_118 : decode cX12_whyNot 118 = .ok (.invokevirtual 355, 3) := by decide +kernel
theorem dX12_whyNot_121 : decode cX12_whyNot 121 = .ok (.ifCond .ne 8, 3) := by decide +kernel
theorem dX12_whyNot_124 : decode cX12_whyNot 124 = .ok (.bipush 11, 2) := by decide +kernel
theorem dX12_whyNot_126 : decode cX12_whyNot 126 = .ok (.goto 19, 3) := by decide +kernel
theorem dX12_whyNot_129 : decode cX12_whyNot 129 = .ok (.aload_n 0, 1) := by decide +kernel
theorem dX12_whyNot_130 : decode cX12_whyNot 130 = .ok (.iload_n 2, 1) := by decide +kernel
theorem dX12_whyNot_131 : decode cX12_whyNot 131 = .ok (.iconst 4, 1) := by decide +kernel
theorem dX12_whyNot_132 : decode cX12_whyNot 132 = .ok (.invokevirtual 256, 3) := by decide +kernel
theorem dX12_whyNot_135 : decode cX12_whyNot 135 = .ok (.iconst 1, 1) := by decide +kernel
theorem dX12_whyNot_136 : decode cX12_whyNot 136 = .ok (.if_icmp .ne 7, 3) := by decide +kernel
theorem dX12_whyNot_139 : decode cX12_whyNot 139 = .ok (.iconst 0, 1) := by decide +kernel
theorem dX12_whyNot_140 : decode cX12_whyNot 140 = .ok (.goto 5, 3) := by decide +kernel
theorem dX12_whyNot_143 : decode cX12_whyNot 143 = .ok (.bipush 19, 2) := by decide +kernel
theorem dX12_whyNot_145 : decode cX12_whyNot 145 = .ok (.ireturn, 1) := by decide +kernel
theorem dX12_whyNot_146 : decode cX12_whyNot 146 = .ok (.aload_n 0, 1) := by decide +kernel
theorem dX12_whyNot_147 : decode cX12_whyNot 147 = .ok (.iload_n 2, 1) := by decide +kernel
theorem dX12_whyNot_148 : decode cX12_whyNot 148 = .ok (.invokevirtual 375, 3) := by decide +kernel
theorem dX12_whyNot_151 : decode cX12_whyNot 151 = .ok (.ireturn, 1) := by decide +kernel
theorem dX12_whyNot_152 : decode cX12_whyNot 152 = .ok (.aload_n 0, 1) := by decide +kernel
theorem dX12_whyNot_153 : decode cX12_whyNot 153 = .ok (.invokevirtual 378, 3) := by decide +kernel
theorem dX12_whyNot_156 : decode cX12_whyNot 156 = .ok (.ireturn, 1) := by decide +kernel
theorem dX12_whyNot_157 : decode cX12_whyNot 157 = .ok (.iconst 0, 1) := by decide +kernel
theorem dX12_whyNot_158 : decode cX12_whyNot 158 = .ok (.ireturn, 1) := by decide +kernel
theorem dX12_lay_0 : decode cX12_lay 0 = .ok (.aload_n 0, 1) := by decide +kernel
theorem dX12_lay_1 : decode cX12_lay 1 = .ok (.getfield 50, 3) := by decide +kernel
theorem dX12_lay_4 : decode cX12_lay 4 = .ok (.iload_n 1, 1) := by decide +kernel
theorem dX12_lay_5 : decode cX12_lay 5 = .ok (.iload_n 2, 1) := by decide +kernel
theorem dX12_lay_6 : decode cX12_lay 6 = .ok (.iastore, 1) := by decide +kernel
theorem dX12_lay_7 : decode cX12_lay 7 = .ok (.aload_n 0, 1) := by decide +kernel
theorem dX12_lay_8 : decode cX12_lay 8 = .ok (.getfield 53, 3) := by decide +kernel
theorem dX12_lay_11 : decode cX12_lay 11 = .ok (.iload_n 1, 1) := by decide +kernel
theorem dX12_lay_12 : decode cX12_lay 12 = .ok (.iload_n 3, 1) := by decide +kernel
theorem dX12_lay_13 : decode cX12_lay 13 = .ok (.iastore, 1) := by decide +kernel
theorem dX12_lay_14 : decode cX12_lay 14 = .ok (.return_, 1) := by decide +kernel
theorem dX12_acts_0 : decode cX12_acts 0 = .ok (.iload_n 1, 1) := by decide +kernel
theorem dX12_acts_1 : decode cX12_acts 1 = .ok (.tableswitch 271 0 11 #[63, 95, 108, 134, 144, 154, 154, 173, 173, 193, 206, 232], 63) := by decide +kernel
theorem dX12_acts_64 : decode cX12_acts 64 = .ok (.aload_n 0, 1) := by decide +kernel
theorem dX12_acts_65 : decode cX12_acts 65 = .ok (.aload_n 0, 1) := by decide +kernel
theorem dX12_acts_66 : decode cX12_acts 66 = .ok (.getfield 53, 3) := by decide +kernel
theorem dX12_acts_69 : decode cX12_acts 69 = .ok (.aload_n 0, 1) := by decide +kernel
