theorem dX12_cast_15 : decode cX12_cast 15 = .ok (.if_icmp .le 5, 3) := o_164 (u1_15 hc_X12_cast_0 rfl) (s2_d (u2_d (u1_16 hc_X12_cast_0 rfl) (u1_17 hc_X12_cast_0 rfl) rfl) rfl) rfl
theorem hc_X12_cast_16 : ((bL cX12_cast).drop 16).take 18 = [0, 5, 2, 172, 42, 180, 1, 194, 16, 10, 160, 0, 6, 16, 254, 172, 28, 156] := by decide +kernel
theorem dX12_cast_18 : decode cX12_cast 18 = .ok (.iconst (-1), 1) := o_2 (u1_2 hc_X12_cast_16 rfl) rfl
theorem dX12_cast_19 : decode cX12_cast 19 = .ok (.ireturn, 1) := o_172 (u1_3 hc_X12_cast_16 rfl) rfl
theorem dX12_cast_20 : decode cX12_cast 20 = .ok (.aload_n 0, 1) := o_42 (u1_4 hc_X12_cast_16 rfl) rfl
theorem dX12_cast_21 : decode cX12_cast 21 = .ok (.getfield 450, 3) := o_180 (u1_5 hc_X12_cast_16 rfl) (u2_d (u1_6 hc_X12_cast_16 rfl) (u1_7 hc_X12_cast_16 rfl) rfl) rfl
theorem dX12_cast_24 : decode cX12_cast 24 = .ok (.bipush 10, 2) := o_16 (u1_8 hc_X12_cast_16 rfl) (s1_d (u1_9 hc_X12_cast_16 rfl) rfl) rfl
theorem dX12_cast_26 : decode cX12_cast 26 = .ok (.if_icmp .ne 6, 3) := o_160 (u1_10 hc_X12_cast_16 rfl) (s2_d (u2_d (u1_11 hc_X12_cast_16 rfl) (u1_12 hc_X12_cast_16 rfl) rfl) rfl) rfl
theorem dX12_cast_29 : decode cX12_cast 29 = .ok (.bipush (-2), 2) := o_16 (u1_13 hc_X12_cast_16 rfl) (s1_d (u1_14 hc_X12_cast_16 rfl) rfl) rfl
theorem dX12_cast_31 : decode cX12_cast 31 = .ok (.ireturn, 1) := o_172 (u1_15 hc_X12_cast_16 rfl) rfl
theorem hc_X12_cast_32 : ((bL cX12_cast).drop 32).take 18 = [28, 156, 0, 9, 42, 8, 182, 0, 233, 172, 42, 180, 0, 139, 42, 180, 1, 194] := by decide +kernel
theorem dX12_cast_32 : decode cX12_cast 32 = .ok (.iload_n 2, 1) := o_28 (u1_0 hc_X12_cast_32 rfl) rfl
theorem dX12_cast_33 : decode cX12_cast 33 = .ok (.ifCond .ge 9, 3) := o_156 (u1_1 hc_X12_cast_32 rfl) (s2_d (u2_d (u1_2 hc_X12_cast_32 rfl) (u1_3 hc_X12_cast_32 rfl) rfl) rfl) rfl
theorem dX12_cast_36 : decode cX12_cast 36 = .ok (.aload_n 0, 1) := o_42 (u1_4 hc_X12_cast_32 rfl) rfl
theorem dX12_cast_37 : decode cX12_cast 37 = .ok (.iconst 5, 1) := o_8 (u1_5 hc_X12_cast_32 rfl) rfl
theorem dX12_cast_38 : decode cX12_cast 38 = .ok (.invokevirtual 233, 3) := o_182 (u1_6 hc_X12_cast_32 rfl) (u2_d (u1_7 hc_X12_cast_32 rfl) (u1_8 hc_X12_cast_32 rfl) rfl) rfl
theorem dX12_cast_41 : decode cX12_cast 41 = .ok (.ireturn, 1) := o_172 (u1_9 hc_X12_cast_32 rfl) rfl
theorem dX12_cast_42 : decode cX12_cast 42 = .ok (.aload_n 0, 1) := o_42 (u1_10 hc_X12_cast_32 rfl) rfl
theorem dX12_cast_43 : decode cX12_cast 43 = .ok (.getfield 139, 3) := o_180 (u1_11 hc_X12_cast_32 rfl) (u2_d (u1_12 hc_X12_cast_32 rfl) (u1_13 hc_X12_cast_32 rfl) rfl) rfl
theorem dX12_cast_46 : decode cX12_cast 46 = .ok (.aload_n 0, 1) := o_42 (u1_14 hc_X12_cast_32 rfl) rfl
theorem dX12_cast_47 : decode cX12_cast 47 = .ok (.getfield 450, 3) := o_180 (u1_15 hc_X12_cast_32 rfl) (u2_d (u1_16 hc_X12_cast_32 rfl) (u1_17 hc_X12_cast_32 rfl) rfl) rfl
theorem hc_X12_cast_48 : ((bL cX12_cast).drop 48).take 18 = [1, 194, 27, 79, 42, 180, 0, 142, 42, 180, 1, 194, 28, 79, 3, 62, 29, 16] := by decide +kernel
theorem dX12_cast_50 : decode cX12_cast 50 = .ok (.iload_n 1, 1) := o_27 (u1_2 hc_X12_cast_48 rfl) rfl
theorem dX12_cast_51 : decode cX12_cast 51 = .ok (.iastore, 1) := o_79 (u1_3 hc_X12_cast_48 rfl) rfl
theorem dX12_cast_52 : decode cX12_cast 52 = .ok (.aload_n 0, 1) := o_42 (u1_4 hc_X12_cast_48 rfl) rfl
theorem dX12_cast_53 : decode cX12_cast 53 = .ok (.getfield 142, 3) := o_180 (u1_5 hc_X12_cast_48 rfl) (u2_d (u1_6 hc_X12_cast_48 rfl) (u1_7 hc_X12_cast_48 rfl) rfl) rfl
theorem dX12_cast_56 : decode cX12_cast 56 = .ok (.aload_n 0, 1) := o_42 (u1_8 hc_X12_cast_48 rfl) rfl
theorem dX12_cast_57 : decode cX12_cast 57 = .ok (.getfield 450, 3) := o_180 (u1_9 hc_X12_cast_48 rfl) (u2_d (u1_10 hc_X12_cast_48 rfl) (u1_11 hc_X12_cast_48 rfl) rfl) rfl
theorem dX12_cast_60 : decode cX12_cast 60 = .ok (.iload_n 2, 1) := o_28 (u1_12 hc_X12_cast_48 rfl) rfl
theorem dX12_cast_61 : decode cX12_cast 61 = .ok (.iastore, 1) := o_79 (u1_13 hc_X12_cast_48 rfl) rfl
theorem dX12_cast_62 : decode cX12_cast 62 = .ok (.iconst 0, 1) := o_3 (u1_14 hc_X12_cast_48 rfl) rfl
theorem dX12_cast_63 : decode cX12_cast 63 = .ok (.istore_n 3, 1) := o_62 (u1_15 hc_X12_cast_48 rfl) rfl
theorem hc_X12_cast_64 : ((bL cX12_cast).drop 64).take 18 = [29, 16, 12, 162, 0, 25, 42, 180, 0, 145, 16, 12, 42, 180, 1, 194, 104, 29] := by decide +kernel
theorem dX12_cast_64 : decode cX12_cast 64 = .ok (.iload_n 3, 1) := o_29 (u1_0 hc_X12_cast_64 rfl) rfl
theorem dX12_cast_65 : decode cX12_cast 65 = .ok (.bipush 12, 2) := o_16 (u1_1 hc_X12_cast_64 rfl) (s1_d (u1_2 hc_X12_cast_64 rfl) rfl) rfl
theorem dX12_cast_67 : decode cX12_cast 67 = .ok (.if_icmp .ge 25, 3) := o_162 (u1_3 hc_X12_cast_64 rfl) (s2_d (u2_d (u1_4 hc_X12_cast_64 rfl) (u1_5 hc_X12_cast_64 rfl) rfl) rfl) rfl
theorem dX12_cast_70 : decode cX12_cast 70 = .ok (.aload_n 0, 1) := o_42 (u1_6 hc_X12_cast_64 rfl) rfl
theorem dX12_cast_71 : decode cX12_cast 71 = .ok (.getfield 145, 3) := o_180 (u1_7 hc_X12_cast_64 rfl) (u2_d (u1_8 hc_X12_cast_64 rfl) (u1_9 hc_X12_cast_64 rfl) rfl) rfl
theorem dX12_cast_74 : decode cX12_cast 74 = .ok (.bipush 12, 2) := o_16 (u1_10 hc_X12_cast_64 rfl) (s1_d (u1_11 hc_X12_cast_64 rfl) rfl) rfl
theorem dX12_cast_76 : decode cX12_cast 76 = .ok (.aload_n 0, 1) := o_42 (u1_12 hc_X12_cast_64 rfl) rfl
theorem dX12_cast_77 : decode cX12_cast 77 = .ok (.getfield 450, 3) := o_180 (u1_13 hc_X12_cast_64 rfl) (u2_d (u1_14 hc_X12_cast_64 rfl) (u1_15 hc_X12_cast_64 rfl) rfl) rfl
theorem hc_X12_cast_80 : ((bL cX12_cast).drop 80).take 18 = [104, 29, 96, 16, 247, 79, 132, 3, 1, 167, 255, 231, 42, 89, 180, 1, 194, 4] := by decide +kernel
theorem dX12_cast_80 : decode cX12_cast 80 = .ok (.imul, 1) := o_104 (u1_0 hc_X12_cast_80 rfl) rfl
theorem dX12_cast_81 : decode cX12_cast 81 = .ok (.iload_n 3, 1) := o_29 (u1_1 hc_X12_cast_80 rfl) rfl
theorem dX12_cast_82 : decode cX12_cast 82 = .ok (.iadd, 1) := o_96 (u1_2 hc_X12_cast_80 rfl) rfl
theorem dX12_cast_83 : decode cX12_cast 83 = .ok (.bipush (-9), 2) := o_16 (u1_3 hc_X12_cast_80 rfl) (s1_d (u1_4 hc_X12_cast_80 rfl) rfl) rfl
theorem dX12_cast_85 : decode cX12_cast 85 = .ok (.iastore, 1) := o_79 (u1_5 hc_X12_cast_80 rfl) rfl
theorem dX12_cast_86 : decode cX12_cast 86 = .ok (.iinc 3 1, 3) := o_132 (u1_6 hc_X12_cast_80 rfl) (u1_7 hc_X12_cast_80 rfl) (s1_d (u1_8 hc_X12_cast_80 rfl) rfl) rfl
theorem dX12_cast_89 : decode cX12_cast 89 = .ok (.goto (-25), 3) := o_167 (u1_9 hc_X12_cast_80 rfl) (s2_d (u2_d (u1_10 hc_X12_cast_80 rfl) (u1_11 hc_X12_cast_80 rfl) rfl) rfl) rfl
theorem dX12_cast_92 : decode cX12_cast 92 = .ok (.aload_n 0, 1) := o_42 (u1_12 hc_X12_cast_80 rfl) rfl
theorem dX12_cast_93 : decode cX12_cast 93 = .ok (.dup, 1) := o_89 (u1_13 hc_X12_cast_80 rfl) rfl
theorem dX12_cast_94 : decode cX12_cast 94 = .ok (.getfield 450, 3) := o_180 (u1_14 hc_X12_cast_80 rfl) (u2_d (u1_15 hc_X12_cast_80 rfl) (u1_16 hc_X12_cast_80 rfl) rfl) rfl
theorem hc_X12_cast_96 : ((bL cX12_cast).drop 96).take 18 = [194, 4, 96, 181, 1, 194, 42, 180, 1, 194, 4, 100, 172] := by decide +kernel
theorem dX12_cast_97 : decode cX12_cast 97 = .ok (.iconst 1, 1) := o_4 (u1_1 hc_X12_cast_96 rfl) rfl
theorem dX12_cast_98 : decode cX12_cast 98 = .ok (.iadd, 1) := o_96 (u1_2 hc_X12_cast_96 rfl) rfl
theorem dX12_cast_99 : decode cX12_cast 99 = .ok (.putfield 450, 3) := o_181 (u1_3 hc_X12_cast_96 rfl) (u2_d (u1_4 hc_X12_cast_96 rfl) (u1_5 hc_X12_cast_96 rfl) rfl) rfl
theorem dX12_cast_102 : decode cX12_cast 102 = .ok (.aload_n 0, 1) := o_42 (u1_6 hc_X12_cast_96 rfl) rfl
theorem dX12_cast_103 : decode cX12_cast 103 = .ok (.getfield 450, 3) := o_180 (u1_7 hc_X12_cast_96 rfl) (u2_d (u1_8 hc_X12_cast_96 rfl) (u1_9 hc_X12_cast_96 rfl) rfl) rfl
theorem dX12_cast_106 : decode cX12_cast 106 = .ok (.iconst 1, 1) := o_4 (u1_10 hc_X12_cast_96 rfl) rfl
theorem dX12_cast_107 : decode cX12_cast 107 = .ok (.isub, 1) := o_100 (u1_11 hc_X12_cast_96 rfl) rfl
theorem dX12_cast_108 : decode cX12_cast 108 = .ok (.ireturn, 1) := o_172 (u1_12 hc_X12_cast_96 rfl) rfl
theorem hc_X12_role_0 : ((bL cX12_role).drop 0).take 18 = [27, 133, 9, 42, 180, 1, 194, 4, 100, 133, 184, 0, 166, 153, 0, 17, 29, 16] := by decide +kernel
theorem dX12_role_0 : decode cX12_role 0 = .ok (.iload_n 1, 1) := o_27 (u1_0 hc_X12_role_0 rfl) rfl
theorem dX12_role_1 : decode cX12_role 1 = .ok (.i2l, 1) := o_133 (u1_1 hc_X12_role_0 rfl) rfl
theorem dX12_role_2 : decode cX12_role 2 = .ok (.lconst 0, 1) := o_9 (u1_2 hc_X12_role_0 rfl) rfl
theorem dX12_role_3 : decode cX12_role 3 = .ok (.aload_n 0, 1) := o_42 (u1_3 hc_X12_role_0 rfl) rfl
theorem dX12_role_4 : decode cX12_role 4 = .ok (.getfield 450, 3) := o_180 (u1_4 hc_X12_role_0 rfl) (u2_d (u1_5 hc_X12_role_0 rfl) (u1_6 hc_X12_role_0 rfl) rfl) rfl
theorem dX12_role_7 : decode cX12_role 7 = .ok (.iconst 1, 1) := o_4 (u1_7 hc_X12_role_0 rfl) rfl
theorem dX12_role_8 : decode cX12_role 8 = .ok (.isub, 1) := o_100 (u1_8 hc_X12_role_0 rfl) rfl
theorem dX12_role_9 : decode cX12_role 9 = .ok (.i2l, 1) := o_133 (u1_9 hc_X12_role_0 rfl) rfl
theorem dX12_role_10 : decode cX12_role 10 = .ok (.invokestatic 166, 3) := o_184 (u1_10 hc_X12_role_0 rfl) (u2_d (u1_11 hc_X12_role_0 rfl) (u1_12 hc_X12_role_0 rfl) rfl) rfl
theorem dX12_role_13 : decode cX12_role 13 = .ok (.ifCond .eq 17, 3) := o_153 (u1_13 hc_X12_role_0 rfl) (s2_d (u2_d (u1_14 hc_X12_role_0 rfl) (u1_15 hc_X12_role_0 rfl) rfl) rfl) rfl
theorem hc_X12_role_16 : ((bL cX12_role).drop 16).take 18 = [29, 16, 247, 159, 0, 13, 42, 29, 182, 0, 180, 154, 0, 5, 2, 172, 29, 16] := by decide +kernel
theorem dX12_role_16 : decode cX12_role 16 = .ok (.iload_n 3, 1) := o_29 (u1_0 hc_X12_role_16 rfl) rfl
theorem dX12_role_17 : decode cX12_role 17 = .ok (.bipush (-9), 2) := o_16 (u1_1 hc_X12_role_16 rfl) (s1_d (u1_2 hc_X12_role_16 rfl) rfl) rfl
theorem dX12_role_19 : decode cX12_role 19 = .ok (.if_icmp .eq 13, 3) := o_159 (u1_3 hc_X12_role_16 rfl) (s2_d (u2_d (u1_4 hc_X12_role_16 rfl) (u1_5 hc_X12_role_16 rfl) rfl) rfl) rfl
theorem dX12_role_22 : decode cX12_role 22 = .ok (.aload_n 0, 1) := o_42 (u1_6 hc_X12_role_16 rfl) rfl
theorem dX12_role_23 : decode cX12_role 23 = .ok (.iload_n 3, 1) := o_29 (u1_7 hc_X12_role_16 rfl) rfl
theorem dX12_role_24 : decode cX12_role 24 = .ok (.invokevirtual 180, 3) := o_182 (u1_8 hc_X12_role_16 rfl) (u2_d (u1_9 hc_X12_role_16 rfl) (u1_10 hc_X12_role_16 rfl) rfl) rfl
theorem dX12_role_27 : decode cX12_role 27 = .ok (.ifCond .ne 5, 3) := o_154 (u1_11 hc_X12_role_16 rfl) (s2_d (u2_d (u1_12 hc_X12_role_16 rfl) (u1_13 hc_X12_role_16 rfl) rfl) rfl) rfl
theorem dX12_role_30 : decode cX12_role 30 = .ok (.iconst (-1), 1) := o_2 (u1_14 hc_X12_role_16 rfl) rfl
theorem dX12_role_31 : decode cX12_role 31 = .ok (.ireturn, 1) := o_172 (u1_15 hc_X12_role_16 rfl) rfl
theorem hc_X12_role_32 : ((bL cX12_role).drop 32).take 18 = [29, 16, 247, 159, 0, 18, 42, 29, 3, 182, 0, 184, 153, 0, 9, 42, 6, 182] := by decide +kernel
theorem dX12_role_32 : decode cX12_role 32 = .ok (.iload_n 3, 1) := o_29 (u1_0 hc_X12_role_32 rfl) rfl
theorem dX12_role_33 : decode cX12_role 33 = .ok (.bipush (-9), 2) := o_16 (u1_1 hc_X12_role_32 rfl) (s1_d (u1_2 hc_X12_role_32 rfl) rfl) rfl
theorem dX12_role_35 : decode cX12_role 35 = .ok (.if_icmp .eq 18, 3) := o_159 (u1_3 hc_X12_role_32 rfl) (s2_d (u2_d (u1_4 hc_X12_role_32 rfl) (u1_5 hc_X12_role_32 rfl) rfl) rfl) rfl
theorem dX12_role_38 : decode cX12_role 38 = .ok (.aload_n 0, 1) := o_42 (u1_6 hc_X12_role_32 rfl) rfl
theorem dX12_role_39 : decode cX12_role 39 = .ok (.iload_n 3, 1) := o_29 (u1_7 hc_X12_role_32 rfl) rfl
theorem dX12_role_40 : decode cX12_role 40 = .ok (.iconst 0, 1) := o_3 (u1_8 hc_X12_role_32 rfl) rfl
theorem dX12_role_41 : decode cX12_role 41 = .ok (.invokevirtual 184, 3) := o_182 (u1_9 hc_X12_role_32 rfl) (u2_d (u1_10 hc_X12_role_32 rfl) (u1_11 hc_X12_role_32 rfl) rfl) rfl
theorem dX12_role_44 : decode cX12_role 44 = .ok (.ifCond .eq 9, 3) := o_153 (u1_12 hc_X12_role_32 rfl) (s2_d (u2_d (u1_13 hc_X12_role_32 rfl) (u1_14 hc_X12_role_32 rfl) rfl) rfl) rfl
theorem dX12_role_47 : decode cX12_role 47 = .ok (.aload_n 0, 1) := o_42 (u1_15 hc_X12_role_32 rfl) rfl
theorem hc_X12_role_48 : ((bL cX12_role).drop 48).take 18 = [6, 182, 0, 233, 172, 28, 133, 9, 42, 180, 0, 142, 27, 46, 4, 100, 133, 184] := by decide +kernel
theorem dX12_role_48 : decode cX12_role 48 = .ok (.iconst 3, 1) := o_6 (u1_0 hc_X12_role_48 rfl) rfl
theorem dX12_role_49 : decode cX12_role 49 = .ok (.invokevirtual 233, 3) := o_182 (u1_1 hc_X12_role_48 rfl) (u2_d (u1_2 hc_X12_role_48 rfl) (u1_3 hc_X12_role_48 rfl) rfl) rfl
theorem dX12_role_52 : decode cX12_role 52 = .ok (.ireturn, 1) := o_172 (u1_4 hc_X12_role_48 rfl) rfl
theorem dX12_role_53 : decode cX12_role 53 = .ok (.iload_n 2, 1) := o_28 (u1_5 hc_X12_role_48 rfl) rfl
theorem dX12_role_54 : decode cX12_role 54 = .ok (.i2l, 1) := o_133 (u1_6 hc_X12_role_48 rfl) rfl
theorem dX12_role_55 : decode cX12_role 55 = .ok (.lconst 0, 1) := o_9 (u1_7 hc_X12_role_48 rfl) rfl
theorem dX12_role_56 : decode cX12_role 56 = .ok (.aload_n 0, 1) := o_42 (u1_8 hc_X12_role_48 rfl) rfl
theorem dX12_role_57 : decode cX12_role 57 = .ok (.getfield 142, 3) := o_180 (u1_9 hc_X12_role_48 rfl) (u2_d (u1_10 hc_X12_role_48 rfl) (u1_11 hc_X12_role_48 rfl) rfl) rfl
theorem dX12_role_60 : decode cX12_role 60 = .ok (.iload_n 1, 1) := o_27 (u1_12 hc_X12_role_48 rfl) rfl
theorem dX12_role_61 : decode cX12_role 61 = .ok (.iaload, 1) := o_46 (u1_13 hc_X12_role_48 rfl) rfl
theorem dX12_role_62 : decode cX12_role 62 = .ok (.iconst 1, 1) := o_4 (u1_14 hc_X12_role_48 rfl) rfl
theorem dX12_role_63 : decode cX12_role 63 = .ok (.isub, 1) := o_100 (u1_15 hc_X12_role_48 rfl) rfl
theorem hc_X12_role_64 : ((bL cX12_role).drop 64).take 18 = [133, 184, 0, 166, 154, 0, 9, 42, 5, 182, 0, 233, 172, 29, 16, 247, 159, 0] := by decide +kernel
theorem dX12_role_64 : decode cX12_role 64 = .ok (.i2l, 1) := o_133 (u1_0 hc_X12_role_64 rfl) rfl
theorem dX12_role_65 : decode cX12_role 65 = .ok (.invokestatic 166, 3) := o_184 (u1_1 hc_X12_role_64 rfl) (u2_d (u1_2 hc_X12_role_64 rfl) (u1_3 hc_X12_role_64 rfl) rfl) rfl
theorem dX12_role_68 : decode cX12_role 68 = .ok (.ifCond .ne 9, 3) := o_154 (u1_4 hc_X12_role_64 rfl) (s2_d (u2_d (u1_5 hc_X12_role_64 rfl) (u1_6 hc_X12_role_64 rfl) rfl) rfl) rfl
theorem dX12_role_71 : decode cX12_role 71 = .ok (.aload_n 0, 1) := o_42 (u1_7 hc_X12_role_64 rfl) rfl
theorem dX12_role_72 : decode cX12_role 72 = .ok (.iconst 2, 1) := o_5 (u1_8 hc_X12_role_64 rfl) rfl
theorem dX12_role_73 : decode cX12_role 73 = .ok (.invokevirtual 233, 3) := o_182 (u1_9 hc_X12_role_64 rfl) (u2_d (u1_10 hc_X12_role_64 rfl) (u1_11 hc_X12_role_64 rfl) rfl) rfl
theorem dX12_role_76 : decode cX12_role 76 = .ok (.ireturn, 1) := o_172 (u1_12 hc_X12_role_64 rfl) rfl
theorem dX12_role_77 : decode cX12_role 77 = .ok (.iload_n 3, 1) := o_29 (u1_13 hc_X12_role_64 rfl) rfl
theorem dX12_role_78 : decode cX12_role 78 = .ok (.bipush (-9), 2) := o_16 (u1_14 hc_X12_role_64 rfl) (s1_d (u1_15 hc_X12_role_64 rfl) rfl) rfl
theorem hc_X12_role_80 : ((bL cX12_role).drop 80).take 18 = [159, 0, 24, 42, 29, 42, 180, 0, 139, 27, 46, 182, 0, 184, 154, 0, 10, 42] := by decide +kernel
theorem dX12_role_80 : decode cX12_role 80 = .ok (.if_icmp .eq 24, 3) := o_159 (u1_0 hc_X12_role_80 rfl) (s2_d (u2_d (u1_1 hc_X12_role_80 rfl) (u1_2 hc_X12_role_80 rfl) rfl) rfl) rfl
theorem dX12_role_83 : decode cX12_role 83 = .ok (.aload_n 0, 1) := o_42 (u1_3 hc_X12_role_80 rfl) rfl
theorem dX12_role_84 : decode cX12_role 84 = .ok (.iload_n 3, 1) := o_29 (u1_4 hc_X12_role_80 rfl) rfl
theorem dX12_role_85 : decode cX12_role 85 = .ok (.aload_n 0, 1) := o_42 (u1_5 hc_X12_role_80 rfl) rfl
theorem dX12_role_86 : decode cX12_role 86 = .ok (.getfield 139, 3) := o_180 (u1_6 hc_X12_role_80 rfl) (u2_d (u1_7 hc_X12_role_80 rfl) (u1_8 hc_X12_role_80 rfl) rfl) rfl
theorem dX12_role_89 : decode cX12_role 89 = .ok (.iload_n 1, 1) := o_27 (u1_9 hc_X12_role_80 rfl) rfl
theorem dX12_role_90 : decode cX12_role 90 = .ok (.iaload, 1) := o_46 (u1_10 hc_X12_role_80 rfl) rfl
theorem dX12_role_91 : decode cX12_role 91 = .ok (.invokevirtual 184, 3) := o_182 (u1_11 hc_X12_role_80 rfl) (u2_d (u1_12 hc_X12_role_80 rfl) (u1_13 hc_X12_role_80 rfl) rfl) rfl
theorem dX12_role_94 : decode cX12_role 94 = .ok (.ifCond .ne 10, 3) := o_154 (u1_14 hc_X12_role_80 rfl) (s2_d (u2_d (u1_15 hc_X12_role_80 rfl) (u1_16 hc_X12_role_80 rfl) rfl) rfl) rfl
theorem hc_X12_role_96 : ((bL cX12_role).drop 96).take 18 = [10, 42, 16, 6, 182, 0, 233, 172, 42, 180, 0, 145, 16, 12, 27, 104, 28, 96] := by decide +kernel
theorem dX12_role_97 : decode cX12_role 97 = .ok (.aload_n 0, 1) := o_42 (u1_1 hc_X12_role_96 rfl) rfl
theorem dX12_role_98 : decode cX12_role 98 = .ok (.bipush 6, 2) := o_16 (u1_2 hc_X12_role_96 rfl) (s1_d (u1_3 hc_X12_role_96 rfl) rfl) rfl
theorem dX12_role_100 : decode cX12_role 100 = .ok (.invokevirtual 233, 3) := o_182 (u1_4 hc_X12_role_96 rfl) (u2_d (u1_5 hc_X12_role_96 rfl) (u1_6 hc_X12_role_96 rfl) rfl) rfl
theorem dX12_role_103 : decode cX12_role 103 = .ok (.ireturn, 1) := o_172 (u1_7 hc_X12_role_96 rfl) rfl
theorem dX12_role_104 : decode cX12_role 104 = .ok (.aload_n 0, 1) := o_42 (u1_8 hc_X12_role_96 rfl) rfl
theorem dX12_role_105 : decode cX12_role 105 = .ok (.getfield 145, 3) := o_180 (u1_9 hc_X12_role_96 rfl) (u2_d (u1_10 hc_X12_role_96 rfl) (u1_11 hc_X12_role_96 rfl) rfl) rfl
theorem dX12_role_108 : decode cX12_role 108 = .ok (.bipush 12, 2) := o_16 (u1_12 hc_X12_role_96 rfl) (s1_d (u1_13 hc_X12_role_96 rfl) rfl) rfl
theorem dX12_role_110 : decode cX12_role 110 = .ok (.iload_n 1, 1) := o_27 (u1_14 hc_X12_role_96 rfl) rfl
theorem dX12_role_111 : decode cX12_role 111 = .ok (.imul, 1) := o_104 (u1_15 hc_X12_role_96 rfl) rfl
theorem hc_X12_role_112 : ((bL cX12_role).drop 112).take 18 = [28, 96, 29, 79, 4, 172] := by decide +kernel
theorem dX12_role_112 : decode cX12_role 112 = .ok (.iload_n 2, 1) := o_28 (u1_0 hc_X12_role_112 rfl) rfl
theorem dX12_role_113 : decode cX12_role 113 = .ok (.iadd, 1) := o_96 (u1_1 hc_X12_role_112 rfl) rfl
theorem dX12_role_114 : decode cX12_role 114 = .ok (.iload_n 3, 1) := o_29 (u1_2 hc_X12_role_112 rfl) rfl
theorem dX12_role_115 : decode cX12_role 115 = .ok (.iastore, 1) := o_79 (u1_3 hc_X12_role_112 rfl) rfl
theorem dX12_role_116 : decode cX12_role 116 = .ok (.iconst 1, 1) := o_4 (u1_4 hc_X12_role_112 rfl) rfl
theorem dX12_role_117 : decode cX12_role 117 = .ok (.ireturn, 1) := o_172 (u1_5 hc_X12_role_112 rfl) rfl
theorem hc_X12_who_0 : ((bL cX12_who).drop 0).take 18 = [27, 133, 9, 42, 180, 1, 194, 4, 100, 133, 184, 0, 166, 154, 0, 5, 2, 172] := by decide +kernel
theorem dX12_who_0 : decode cX12_who 0 = .ok (.iload_n 1, 1) := o_27 (u1_0 hc_X12_who_0 rfl) rfl
theorem dX12_who_1 : decode cX12_who 1 = .ok (.i2l, 1) := o_133 (u1_1 hc_X12_who_0 rfl) rfl
theorem dX12_who_2 : decode cX12_who 2 = .ok (.lconst 0, 1) := o_9 (u1_2 hc_X12_who_0 rfl) rfl
theorem dX12_who_3 : decode cX12_who 3 = .ok (.aload_n 0, 1) := o_42 (u1_3 hc_X12_who_0 rfl) rfl
theorem dX12_who_4 : decode cX12_who 4 = .ok (.getfield 450, 3) := o_180 (u1_4 hc_X12_who_0 rfl) (u2_d (u1_5 hc_X12_who_0 rfl) (u1_6 hc_X12_who_0 rfl) rfl) rfl
theorem dX12_who_7 : decode cX12_who 7 = .ok (.iconst 1, 1) := o_4 (u1_7 hc_X12_who_0 rfl) rfl
theorem dX12_who_8 : decode cX12_who 8 = .ok (.isub, 1) := o_100 (u1_8 hc_X12_who_0 rfl) rfl
theorem dX12_who_9 : decode cX12_who 9 = .ok (.i2l, 1) := o_133 (u1_9 hc_X12_who_0 rfl) rfl
theorem dX12_who_10 : decode cX12_who 10 = .ok (.invokestatic 166, 3) := o_184 (u1_10 hc_X12_who_0 rfl) (u2_d (u1_11 hc_X12_who_0 rfl) (u1_12 hc_X12_who_0 rfl) rfl) rfl
theorem dX12_who_13 : decode cX12_who 13 = .ok (.ifCond .ne 5, 3) := o_154 (u1_13 hc_X12_who_0 rfl) (s2_d (u2_d (u1_14 hc_X12_who_0 rfl) (u1_15 hc_X12_who_0 rfl) rfl) rfl) rfl
theorem hc_X12_who_16 : ((bL cX12_who).drop 16).take 18 = [2, 172, 28, 133, 9, 42, 180, 0, 142, 27, 46, 4, 100, 133, 184, 0, 166, 154] := by decide +kernel
theorem dX12_who_16 : decode cX12_who 16 = .ok (.iconst (-1), 1) := o_2 (u1_0 hc_X12_who_16 rfl) rfl
theorem dX12_who_17 : decode cX12_who 17 = .ok (.ireturn, 1) := o_172 (u1_1 hc_X12_who_16 rfl) rfl
theorem dX12_who_18 : decode cX12_who 18 = .ok (.iload_n 2, 1) := o_28 (u1_2 hc_X12_who_16 rfl) rfl
theorem dX12_who_19 : decode cX12_who 19 = .ok (.i2l, 1) := o_133 (u1_3 hc_X12_who_16 rfl) rfl
theorem dX12_who_20 : decode cX12_who 20 = .ok (.lconst 0, 1) := o_9 (u1_4 hc_X12_who_16 rfl) rfl
theorem dX12_who_21 : decode cX12_who 21 = .ok (.aload_n 0, 1) := o_42 (u1_5 hc_X12_who_16 rfl) rfl
theorem dX12_who_22 : decode cX12_who 22 = .ok (.getfield 142, 3) := o_180 (u1_6 hc_X12_who_16 rfl) (u2_d (u1_7 hc_X12_who_16 rfl) (u1_8 hc_X12_who_16 rfl) rfl) rfl
theorem dX12_who_25 : decode cX12_who 25 = .ok (.iload_n 1, 1) := o_27 (u1_9 hc_X12_who_16 rfl) rfl
theorem dX12_who_26 : decode cX12_who 26 = .ok (.iaload, 1) := o_46 (u1_10 hc_X12_who_16 rfl) rfl
theorem dX12_who_27 : decode cX12_who 27 = .ok (.iconst 1, 1) := o_4 (u1_11 hc_X12_who_16 rfl) rfl
theorem dX12_who_28 : decode cX12_who 28 = .ok (.isub, 1) := o_100 (u1_12 hc_X12_who_16 rfl) rfl
theorem dX12_who_29 : decode cX12_who 29 = .ok (.i2l, 1) := o_133 (u1_13 hc_X12_who_16 rfl) rfl
theorem dX12_who_30 : decode cX12_who 30 = .ok (.invokestatic 166, 3) := o_184 (u1_14 hc_X12_who_16 rfl) (u2_d (u1_15 hc_X12_who_16 rfl) (u1_16 hc_X12_who_16 rfl) rfl) rfl
theorem hc_X12_who_32 : ((bL cX12_who).drop 32).take 18 = [166, 154, 0, 9, 42, 5, 182, 0, 233, 172, 42, 180, 0, 145, 16, 12, 27, 104] := by decide +kernel
theorem dX12_who_33 : decode cX12_who 33 = .ok (.ifCond .ne 9, 3) := o_154 (u1_1 hc_X12_who_32 rfl) (s2_d (u2_d (u1_2 hc_X12_who_32 rfl) (u1_3 hc_X12_who_32 rfl) rfl) rfl) rfl
theorem dX12_who_36 : decode cX12_who 36 = .ok (.aload_n 0, 1) := o_42 (u1_4 hc_X12_who_32 rfl) rfl
theorem dX12_who_37 : decode cX12_who 37 = .ok (.iconst 2, 1) := o_5 (u1_5 hc_X12_who_32 rfl) rfl
theorem dX12_who_38 : decode cX12_who 38 = .ok (.invokevirtual 233, 3) := o_182 (u1_6 hc_X12_who_32 rfl) (u2_d (u1_7 hc_X12_who_32 rfl) (u1_8 hc_X12_who_32 rfl) rfl) rfl
theorem dX12_who_41 : decode cX12_who 41 = .ok (.ireturn, 1) := o_172 (u1_9 hc_X12_who_32 rfl) rfl
theorem dX12_who_42 : decode cX12_who 42 = .ok (.aload_n 0, 1) := o_42 (u1_10 hc_X12_who_32 rfl) rfl
theorem dX12_who_43 : decode cX12_who 43 = .ok (.getfield 145, 3) := o_180 (u1_11 hc_X12_who_32 rfl) (u2_d (u1_12 hc_X12_who_32 rfl) (u1_13 hc_X12_who_32 rfl) rfl) rfl
theorem dX12_who_46 : decode cX12_who 46 = .ok (.bipush 12, 2) := o_16 (u1_14 hc_X12_who_32 rfl) (s1_d (u1_15 hc_X12_who_32 rfl) rfl) rfl
theorem hc_X12_who_48 : ((bL cX12_who).drop 48).take 18 = [27, 104, 28, 96, 46, 16, 247, 160, 0, 11, 42, 4, 182, 0, 233, 167, 0, 14] := by decide +kernel
theorem dX12_who_48 : decode cX12_who 48 = .ok (.iload_n 1, 1) := o_27 (u1_0 hc_X12_who_48 rfl) rfl
theorem dX12_who_49 : decode cX12_who 49 = .ok (.imul, 1) := o_104 (u1_1 hc_X12_who_48 rfl) rfl
theorem dX12_who_50 : decode cX12_who 50 = .ok (.iload_n 2, 1) := o_28 (u1_2 hc_X12_who_48 rfl) rfl
theorem dX12_who_51 : decode cX12_who 51 = .ok (.iadd, 1) := o_96 (u1_3 hc_X12_who_48 rfl) rfl
theorem dX12_who_52 : decode cX12_who 52 = .ok (.iaload, 1) := o_46 (u1_4 hc_X12_who_48 rfl) rfl
theorem dX12_who_53 : decode cX12_who 53 = .ok (.bipush (-9), 2) := o_16 (u1_5 hc_X12_who_48 rfl) (s1_d (u1_6 hc_X12_who_48 rfl) rfl) rfl
theorem dX12_who_55 : decode cX12_who 55 = .ok (.if_icmp .ne 11, 3) := o_160 (u1_7 hc_X12_who_48 rfl) (s2_d (u2_d (u1_8 hc_X12_who_48 rfl) (u1_9 hc_X12_who_48 rfl) rfl) rfl) rfl
theorem dX12_who_58 : decode cX12_who 58 = .ok (.aload_n 0, 1) := o_42 (u1_10 hc_X12_who_48 rfl) rfl
theorem dX12_who_59 : decode cX12_who 59 = .ok (.iconst 1, 1) := o_4 (u1_11 hc_X12_who_48 rfl) rfl
theorem dX12_who_60 : decode cX12_who 60 = .ok (.invokevirtual 233, 3) := o_182 (u1_12 hc_X12_who_48 rfl) (u2_d (u1_13 hc_X12_who_48 rfl) (u1_14 hc_X12_who_48 rfl) rfl) rfl
theorem dX12_who_63 : decode cX12_who 63 = .ok (.goto 14, 3) := o_167 (u1_15 hc_X12_who_48 rfl) (s2_d (u2_d (u1_16 hc_X12_who_48 rfl) (u1_17 hc_X12_who_48 rfl) rfl) rfl) rfl
theorem hc_X12_who_64 : ((bL cX12_who).drop 64).take 18 = [0, 14, 42, 180, 0, 145, 16, 12, 27, 104, 28, 96, 46, 172] := by decide +kernel
theorem dX12_who_66 : decode cX12_who 66 = .ok (.aload_n 0, 1) := o_42 (u1_2 hc_X12_who_64 rfl) rfl
theorem dX12_who_67 : decode cX12_who 67 = .ok (.getfield 145, 3) := o_180 (u1_3 hc_X12_who_64 rfl) (u2_d (u1_4 hc_X12_who_64 rfl) (u1_5 hc_X12_who_64 rfl) rfl) rfl
theorem dX12_who_70 : decode cX12_who 70 = .ok (.bipush 12, 2) := o_16 (u1_6 hc_X12_who_64 rfl) (s1_d (u1_7 hc_X12_who_64 rfl) rfl) rfl
theorem dX12_who_72 : decode cX12_who 72 = .ok (.iload_n 1, 1) := o_27 (u1_8 hc_X12_who_64 rfl) rfl
theorem dX12_who_73 : decode cX12_who 73 = .ok (.imul, 1) := o_104 (u1_9 hc_X12_who_64 rfl) rfl
theorem dX12_who_74 : decode cX12_who 74 = .ok (.iload_n 2, 1) := o_28 (u1_10 hc_X12_who_64 rfl) rfl
theorem dX12_who_75 : decode cX12_who 75 = .ok (.iadd, 1) := o_96 (u1_11 hc_X12_who_64 rfl) rfl
theorem dX12_who_76 : decode cX12_who 76 = .ok (.iaload, 1) := o_46 (u1_12 hc_X12_who_64 rfl) rfl
theorem dX12_who_77 : decode cX12_who 77 = .ok (.ireturn, 1) := o_172 (u1_13 hc_X12_who_64 rfl) rfl
theorem hc_X12_count_0 : ((bL cX12_count).drop 0).take 18 = [27, 170, 0, 0, 0, 0, 0, 87, 0, 0, 0, 0, 0, 0, 0, 7, 0, 0] := by decide +kernel
theorem dX12_count_0 : decode cX12_count 0 = .ok (.iload_n 1, 1) := o_27 (u1_0 hc_X12_count_0 rfl) rfl
theorem dX12_count_1 : decode cX12_count 1 = .ok (.tableswitch 87 0 7 #[47, 52, 57, 62, 67, 72, 77, 82], 47) := by decide +kernel
theorem hc_X12_count_48 : ((bL cX12_count).drop 48).take 18 = [42, 180, 0, 151, 172, 42, 180, 0, 177, 172, 42, 182, 0, 248, 172, 42, 180, 0] := by decide +kernel
theorem dX12_count_48 : decode cX12_count 48 = .ok (.aload_n 0, 1) := o_42 (u1_0 hc_X12_count_48 rfl) rfl
theorem dX12_count_49 : decode cX12_count 49 = .ok (.getfield 151, 3) := o_180 (u1_1 hc_X12_count_48 rfl) (u2_d (u1_2 hc_X12_count_48 rfl) (u1_3 hc_X12_count_48 rfl) rfl) rfl
theorem dX12_count_52 : decode cX12_count 52 = .ok (.ireturn, 1) := o_172 (u1_4 hc_X12_count_48 rfl) rfl
theorem dX12_count_53 : decode cX12_count 53 = .ok (.aload_n 0, 1) := o_42 (u1_5 hc_X12_count_48 rfl) rfl
theorem dX12_count_54 : decode cX12_count 54 = .ok (.getfield 177, 3) := o_180 (u1_6 hc_X12_count_48 rfl) (u2_d (u1_7 hc_X12_count_48 rfl) (u1_8 hc_X12_count_48 rfl) rfl) rfl
theorem dX12_count_57 : decode cX12_count 57 = .ok (.ireturn, 1) := o_172 (u1_9 hc_X12_count_48 rfl) rfl
theorem dX12_count_58 : decode cX12_count 58 = .ok (.aload_n 0, 1) := o_42 (u1_10 hc_X12_count_48 rfl) rfl
theorem dX12_count_59 : decode cX12_count 59 = .ok (.invokevirtual 248, 3) := o_182 (u1_11 hc_X12_count_48 rfl) (u2_d (u1_12 hc_X12_count_48 rfl) (u1_13 hc_X12_count_48 rfl) rfl) rfl
theorem dX12_count_62 : decode cX12_count 62 = .ok (.ireturn, 1) := o_172 (u1_14 hc_X12_count_48 rfl) rfl
theorem dX12_count_63 : decode cX12_count 63 = .ok (.aload_n 0, 1) := o_42 (u1_15 hc_X12_count_48 rfl) rfl
theorem hc_X12_count_64 : ((bL cX12_count).drop 64).take 18 = [180, 0, 202, 172, 42, 180, 1, 194, 172, 42, 180, 1, 35, 172, 42, 180, 0, 155] := by decide +kernel
theorem dX12_count_64 : decode cX12_count 64 = .ok (.getfield 202, 3) := o_180 (u1_0 hc_X12_count_64 rfl) (u2_d (u1_1 hc_X12_count_64 rfl) (u1_2 hc_X12_count_64 rfl) rfl) rfl
theorem dX12_count_67 : decode cX12_count 67 = .ok (.ireturn, 1) := o_172 (u1_3 hc_X12_count_64 rfl) rfl
theorem dX12_count_68 : decode cX12_count 68 = .ok (.aload_n 0, 1) := o_42 (u1_4 hc_X12_count_64 rfl) rfl
theorem dX12_count_69 : decode cX12_count 69 = .ok (.getfield 450, 3) := o_180 (u1_5 hc_X12_count_64 rfl) (u2_d (u1_6 hc_X12_count_64 rfl) (u1_7 hc_X12_count_64 rfl) rfl) rfl
theorem dX12_count_72 : decode cX12_count 72 = .ok (.ireturn, 1) := o_172 (u1_8 hc_X12_count_64 rfl) rfl
theorem dX12_count_73 : decode cX12_count 73 = .ok (.aload_n 0, 1) := o_42 (u1_9 hc_X12_count_64 rfl) rfl
theorem dX12_count_74 : decode cX12_count 74 = .ok (.getfield 291, 3) := o_180 (u1_10 hc_X12_count_64 rfl) (u2_d (u1_11 hc_X12_count_64 rfl) (u1_12 hc_X12_count_64 rfl) rfl) rfl
theorem dX12_count_77 : decode cX12_count 77 = .ok (.ireturn, 1) := o_172 (u1_13 hc_X12_count_64 rfl) rfl
theorem dX12_count_78 : decode cX12_count 78 = .ok (.aload_n 0, 1) := o_42 (u1_14 hc_X12_count_64 rfl) rfl
theorem dX12_count_79 : decode cX12_count 79 = .ok (.getfield 155, 3) := o_180 (u1_15 hc_X12_count_64 rfl) (u2_d (u1_16 hc_X12_count_64 rfl) (u1_17 hc_X12_count_64 rfl) rfl) rfl
theorem hc_X12_count_80 : ((bL cX12_count).drop 80).take 18 = [0, 155, 172, 42, 180, 0, 158, 172, 2, 172] := by decide +kernel
theorem dX12_count_82 : decode cX12_count 82 = .ok (.ireturn, 1) := o_172 (u1_2 hc_X12_count_80 rfl) rfl
theorem dX12_count_83 : decode cX12_count 83 = .ok (.aload_n 0, 1) := o_42 (u1_3 hc_X12_count_80 rfl) rfl
theorem dX12_count_84 : decode cX12_count 84 = .ok (.getfield 158, 3) := o_180 (u1_4 hc_X12_count_80 rfl) (u2_d (u1_5 hc_X12_count_80 rfl) (u1_6 hc_X12_count_80 rfl) rfl) rfl
theorem dX12_count_87 : decode cX12_count 87 = .ok (.ireturn, 1) := o_172 (u1_7 hc_X12_count_80 rfl) rfl
theorem dX12_count_88 : decode cX12_count 88 = .ok (.iconst (-1), 1) := o_2 (u1_8 hc_X12_count_80 rfl) rfl
theorem dX12_count_89 : decode cX12_count 89 = .ok (.ireturn, 1) := o_172 (u1_9 hc_X12_count_80 rfl) rfl
theorem hc_X12_digest_0 : ((bL cX12_digest).drop 0).take 18 = [20, 1, 197, 64, 3, 62, 29, 42, 180, 0, 151, 162, 0, 59, 20, 1, 199, 31] := by decide +kernel
theorem dX12_digest_0 : decode cX12_digest 0 = .ok (.ldc2_w 453, 3) := o_20 (u1_0 hc_X12_digest_0 rfl) (u2_d (u1_1 hc_X12_digest_0 rfl) (u1_2 hc_X12_digest_0 rfl) rfl) rfl
theorem dX12_digest_3 : decode cX12_digest 3 = .ok (.lstore_n 1, 1) := o_64 (u1_3 hc_X12_digest_0 rfl) rfl
theorem dX12_digest_4 : decode cX12_digest 4 = .ok (.iconst 0, 1) := o_3 (u1_4 hc_X12_digest_0 rfl) rfl
theorem dX12_digest_5 : decode cX12_digest 5 = .ok (.istore_n 3, 1) := o_62 (u1_5 hc_X12_digest_0 rfl) rfl
theorem dX12_digest_6 : decode cX12_digest 6 = .ok (.iload_n 3, 1) := o_29 (u1_6 hc_X12_digest_0 rfl) rfl
theorem dX12_digest_7 : decode cX12_digest 7 = .ok (.aload_n 0, 1) := o_42 (u1_7 hc_X12_digest_0 rfl) rfl
theorem dX12_digest_8 : decode cX12_digest 8 = .ok (.getfield 151, 3) := o_180 (u1_8 hc_X12_digest_0 rfl) (u2_d (u1_9 hc_X12_digest_0 rfl) (u1_10 hc_X12_digest_0 rfl) rfl) rfl
theorem dX12_digest_11 : decode cX12_digest 11 = .ok (.if_icmp .ge 59, 3) := o_162 (u1_11 hc_X12_digest_0 rfl) (s2_d (u2_d (u1_12 hc_X12_digest_0 rfl) (u1_13 hc_X12_digest_0 rfl) rfl) rfl) rfl
theorem dX12_digest_14 : decode cX12_digest 14 = .ok (.ldc2_w 455, 3) := o_20 (u1_14 hc_X12_digest_0 rfl) (u2_d (u1_15 hc_X12_digest_0 rfl) (u1_16 hc_X12_digest_0 rfl) rfl) rfl
theorem hc_X12_digest_16 : ((bL cX12_digest).drop 16).take 18 = [199, 31, 105, 42, 180, 0, 13, 29, 46, 133, 97, 64, 3, 54, 4, 21, 4, 16] := by decide +kernel
theorem dX12_digest_17 : decode cX12_digest 17 = .ok (.lload_n 1, 1) := o_31 (u1_1 hc_X12_digest_16 rfl) rfl
theorem dX12_digest_18 : decode cX12_digest 18 = .ok (.lmul, 1) := o_105 (u1_2 hc_X12_digest_16 rfl) rfl
theorem dX12_digest_19 : decode cX12_digest 19 = .ok (.aload_n 0, 1) := o_42 (u1_3 hc_X12_digest_16 rfl) rfl
theorem dX12_digest_20 : decode cX12_digest 20 = .ok (.getfield 13, 3) := o_180 (u1_4 hc_X12_digest_16 rfl) (u2_d (u1_5 hc_X12_digest_16 rfl) (u1_6 hc_X12_digest_16 rfl) rfl) rfl
theorem dX12_digest_23 : decode cX12_digest 23 = .ok (.iload_n 3, 1) := o_29 (u1_7 hc_X12_digest_16 rfl) rfl
theorem dX12_digest_24 : decode cX12_digest 24 = .ok (.iaload, 1) := o_46 (u1_8 hc_X12_digest_16 rfl) rfl
theorem dX12_digest_25 : decode cX12_digest 25 = .ok (.i2l, 1) := o_133 (u1_9 hc_X12_digest_16 rfl) rfl
theorem dX12_digest_26 : decode cX12_digest 26 = .ok (.ladd, 1) := o_97 (u1_10 hc_X12_digest_16 rfl) rfl
theorem dX12_digest_27 : decode cX12_digest 27 = .ok (.lstore_n 1, 1) := o_64 (u1_11 hc_X12_digest_16 rfl) rfl
theorem dX12_digest_28 : decode cX12_digest 28 = .ok (.iconst 0, 1) := o_3 (u1_12 hc_X12_digest_16 rfl) rfl
theorem dX12_digest_29 : decode cX12_digest 29 = .ok (.istore 4, 2) := o_54 (u1_13 hc_X12_digest_16 rfl) (u1_14 hc_X12_digest_16 rfl) rfl
theorem dX12_digest_31 : decode cX12_digest 31 = .ok (.iload 4, 2) := o_21 (u1_15 hc_X12_digest_16 rfl) (u1_16 hc_X12_digest_16 rfl) rfl
theorem hc_X12_digest_32 : ((bL cX12_digest).drop 32).take 18 = [4, 16, 6, 162, 0, 29, 20, 1, 199, 31, 105, 42, 180, 0, 16, 16, 6, 29] := by decide +kernel
theorem dX12_digest_33 : decode cX12_digest 33 = .ok (.bipush 6, 2) := o_16 (u1_1 hc_X12_digest_32 rfl) (s1_d (u1_2 hc_X12_digest_32 rfl) rfl) rfl
theorem dX12_digest_35 : decode cX12_digest 35 = .ok (.if_icmp .ge 29, 3) := o_162 (u1_3 hc_X12_digest_32 rfl) (s2_d (u2_d (u1_4 hc_X12_digest_32 rfl) (u1_5 hc_X12_digest_32 rfl) rfl) rfl) rfl
theorem dX12_digest_38 : decode cX12_digest 38 = .ok (.ldc2_w 455, 3) := o_20 (u1_6 hc_X12_digest_32 rfl) (u2_d (u1_7 hc_X12_digest_32 rfl) (u1_8 hc_X12_digest_32 rfl) rfl) rfl
theorem dX12_digest_41 : decode cX12_digest 41 = .ok (.lload_n 1, 1) := o_31 (u1_9 hc_X12_digest_32 rfl) rfl
theorem dX12_digest_42 : decode cX12_digest 42 = .ok (.lmul, 1) := o_105 (u1_10 hc_X12_digest_32 rfl) rfl
theorem dX12_digest_43 : decode cX12_digest 43 = .ok (.aload_n 0, 1) := o_42 (u1_11 hc_X12_digest_32 rfl) rfl
theorem dX12_digest_44 : decode cX12_digest 44 = .ok (.getfield 16, 3) := o_180 (u1_12 hc_X12_digest_32 rfl) (u2_d (u1_13 hc_X12_digest_32 rfl) (u1_14 hc_X12_digest_32 rfl) rfl) rfl
theorem dX12_digest_47 : decode cX12_digest 47 = .ok (.bipush 6, 2) := o_16 (u1_15 hc_X12_digest_32 rfl) (s1_d (u1_16 hc_X12_digest_32 rfl) rfl) rfl
theorem hc_X12_digest_48 : ((bL cX12_digest).drop 48).take 18 = [6, 29, 104, 21, 4, 96, 46, 133, 97, 64, 132, 4, 1, 167, 255, 226, 132, 3] := by decide +kernel
theorem dX12_digest_49 : decode cX12_digest 49 = .ok (.iload_n 3, 1) := o_29 (u1_1 hc_X12_digest_48 rfl) rfl
theorem dX12_digest_50 : decode cX12_digest 50 = .ok (.imul, 1) := o_104 (u1_2 hc_X12_digest_48 rfl) rfl
theorem dX12_digest_51 : decode cX12_digest 51 = .ok (.iload 4, 2) := o_21 (u1_3 hc_X12_digest_48 rfl) (u1_4 hc_X12_digest_48 rfl) rfl
theorem dX12_digest_53 : decode cX12_digest 53 = .ok (.iadd, 1) := o_96 (u1_5 hc_X12_digest_48 rfl) rfl
theorem dX12_digest_54 : decode cX12_digest 54 = .ok (.iaload, 1) := o_46 (u1_6 hc_X12_digest_48 rfl) rfl
theorem dX12_digest_55 : decode cX12_digest 55 = .ok (.i2l, 1) := o_133 (u1_7 hc_X12_digest_48 rfl) rfl
theorem dX12_digest_56 : decode cX12_digest 56 = .ok (.ladd, 1) := o_97 (u1_8 hc_X12_digest_48 rfl) rfl
theorem dX12_digest_57 : decode cX12_digest 57 = .ok (.lstore_n 1, 1) := o_64 (u1_9 hc_X12_digest_48 rfl) rfl
theorem dX12_digest_58 : decode cX12_digest 58 = .ok (.iinc 4 1, 3) := o_132 (u1_10 hc_X12_digest_48 rfl) (u1_11 hc_X12_digest_48 rfl) (s1_d (u1_12 hc_X12_digest_48 rfl) rfl) rfl
theorem dX12_digest_61 : decode cX12_digest 61 = .ok (.goto (-30), 3) := o_167 (u1_13 hc_X12_digest_48 rfl) (s2_d (u2_d (u1_14 hc_X12_digest_48 rfl) (u1_15 hc_X12_digest_48 rfl) rfl) rfl) rfl
theorem hc_X12_digest_64 : ((bL cX12_digest).drop 64).take 18 = [132, 3, 1, 167, 255, 195, 42, 180, 0, 155, 16, 247, 159, 0, 11, 42, 182, 1] := by decide +kernel
theorem dX12_digest_64 : decode cX12_digest 64 = .ok (.iinc 3 1, 3) := o_132 (u1_0 hc_X12_digest_64 rfl) (u1_1 hc_X12_digest_64 rfl) (s1_d (u1_2 hc_X12_digest_64 rfl) rfl) rfl
theorem dX12_digest_67 : decode cX12_digest 67 = .ok (.goto (-61), 3) := o_167 (u1_3 hc_X12_digest_64 rfl) (s2_d (u2_d (u1_4 hc_X12_digest_64 rfl) (u1_5 hc_X12_digest_64 rfl) rfl) rfl) rfl
theorem dX12_digest_70 : decode cX12_digest 70 = .ok (.aload_n 0, 1) := o_42 (u1_6 hc_X12_digest_64 rfl) rfl
theorem dX12_digest_71 : decode cX12_digest 71 = .ok (.getfield 155, 3) := o_180 (u1_7 hc_X12_digest_64 rfl) (u2_d (u1_8 hc_X12_digest_64 rfl) (u1_9 hc_X12_digest_64 rfl) rfl) rfl
theorem dX12_digest_74 : decode cX12_digest 74 = .ok (.bipush (-9), 2) := o_16 (u1_10 hc_X12_digest_64 rfl) (s1_d (u1_11 hc_X12_digest_64 rfl) rfl) rfl
theorem dX12_digest_76 : decode cX12_digest 76 = .ok (.if_icmp .eq 11, 3) := o_159 (u1_12 hc_X12_digest_64 rfl) (s2_d (u2_d (u1_13 hc_X12_digest_64 rfl) (u1_14 hc_X12_digest_64 rfl) rfl) rfl) rfl
theorem dX12_digest_79 : decode cX12_digest 79 = .ok (.aload_n 0, 1) := o_42 (u1_15 hc_X12_digest_64 rfl) rfl
theorem hc_X12_digest_80 : ((bL cX12_digest).drop 80).take 18 = [182, 1, 136, 42, 182, 1, 139, 3, 62, 29, 42, 180, 0, 177, 162, 0, 134, 20] := by decide +kernel
theorem dX12_digest_80 : decode cX12_digest 80 = .ok (.invokevirtual 392, 3) := o_182 (u1_0 hc_X12_digest_80 rfl) (u2_d (u1_1 hc_X12_digest_80 rfl) (u1_2 hc_X12_digest_80 rfl) rfl) rfl
theorem dX12_digest_83 : decode cX12_digest 83 = .ok (.aload_n 0, 1) := o_42 (u1_3 hc_X12_digest_80 rfl) rfl
theorem dX12_digest_84 : decode cX12_digest 84 = .ok (.invokevirtual 395, 3) := o_182 (u1_4 hc_X12_digest_80 rfl) (u2_d (u1_5 hc_X12_digest_80 rfl) (u1_6 hc_X12_digest_80 rfl) rfl) rfl
theorem dX12_digest_87 : decode cX12_digest 87 = .ok (.iconst 0, 1) := o_3 (u1_7 hc_X12_digest_80 rfl) rfl
theorem dX12_digest_88 : decode cX12_digest 88 = .ok (.istore_n 3, 1) := o_62 (u1_8 hc_X12_digest_80 rfl) rfl
theorem dX12_digest_89 : decode cX12_digest 89 = .ok (.iload_n 3, 1) := o_29 (u1_9 hc_X12_digest_80 rfl) rfl
theorem dX12_digest_90 : decode cX12_digest 90 = .ok (.aload_n 0, 1) := o_42 (u1_10 hc_X12_digest_80 rfl) rfl
theorem dX12_digest_91 : decode cX12_digest 91 = .ok (.getfield 177, 3) := o_180 (u1_11 hc_X12_digest_80 rfl) (u2_d (u1_12 hc_X12_digest_80 rfl) (u1_13 hc_X12_digest_80 rfl) rfl) rfl
theorem dX12_digest_94 : decode cX12_digest 94 = .ok (.if_icmp .ge 134, 3) := o_162 (u1_14 hc_X12_digest_80 rfl) (s2_d (u2_d (u1_15 hc_X12_digest_80 rfl) (u1_16 hc_X12_digest_80 rfl) rfl) rfl) rfl
theorem hc_X12_digest_96 : ((bL cX12_digest).drop 96).take 18 = [134, 20, 1, 199, 20, 1, 199, 31, 105, 42, 180, 0, 19, 29, 46, 133, 97, 105] := by decide +kernel
theorem dX12_digest_97 : decode cX12_digest 97 = .ok (.ldc2_w 455, 3) := o_20 (u1_1 hc_X12_digest_96 rfl) (u2_d (u1_2 hc_X12_digest_96 rfl) (u1_3 hc_X12_digest_96 rfl) rfl) rfl
theorem dX12_digest_100 : decode cX12_digest 100 = .ok (.ldc2_w 455, 3) := o_20 (u1_4 hc_X12_digest_96 rfl) (u2_d (u1_5 hc_X12_digest_96 rfl) (u1_6 hc_X12_digest_96 rfl) rfl) rfl
theorem dX12_digest_103 : decode cX12_digest 103 = .ok (.lload_n 1, 1) := o_31 (u1_7 hc_X12_digest_96 rfl) rfl
theorem dX12_digest_104 : decode cX12_digest 104 = .ok (.lmul, 1) := o_105 (u1_8 hc_X12_digest_96 rfl) rfl
theorem dX12_digest_105 : decode cX12_digest 105 = .ok (.aload_n 0, 1) := o_42 (u1_9 hc_X12_digest_96 rfl) rfl
theorem dX12_digest_106 : decode cX12_digest 106 = .ok (.getfield 19, 3) := o_180 (u1_10 hc_X12_digest_96 rfl) (u2_d (u1_11 hc_X12_digest_96 rfl) (u1_12 hc_X12_digest_96 rfl) rfl) rfl
theorem dX12_digest_109 : decode cX12_digest 109 = .ok (.iload_n 3, 1) := o_29 (u1_13 hc_X12_digest_96 rfl) rfl
theorem dX12_digest_110 : decode cX12_digest 110 = .ok (.iaload, 1) := o_46 (u1_14 hc_X12_digest_96 rfl) rfl
theorem dX12_digest_111 : decode cX12_digest 111 = .ok (.i2l, 1) := o_133 (u1_15 hc_X12_digest_96 rfl) rfl
theorem hc_X12_digest_112 : ((bL cX12_digest).drop 112).take 18 = [97, 105, 42, 180, 0, 22, 29, 46, 133, 97, 64, 42, 29, 182, 0, 208, 54, 4] := by decide +kernel
theorem dX12_digest_112 : decode cX12_digest 112 = .ok (.ladd, 1) := o_97 (u1_0 hc_X12_digest_112 rfl) rfl
theorem dX12_digest_113 : decode cX12_digest 113 = .ok (.lmul, 1) := o_105 (u1_1 hc_X12_digest_112 rfl) rfl
theorem dX12_digest_114 : decode cX12_digest 114 = .ok (.aload_n 0, 1) := o_42 (u1_2 hc_X12_digest_112 rfl) rfl
theorem dX12_digest_115 : decode cX12_digest 115 = .ok (.getfield 22, 3) := o_180 (u1_3 hc_X12_digest_112 rfl) (u2_d (u1_4 hc_X12_digest_112 rfl) (u1_5 hc_X12_digest_112 rfl) rfl) rfl
theorem dX12_digest_118 : decode cX12_digest 118 = .ok (.iload_n 3, 1) := o_29 (u1_6 hc_X12_digest_112 rfl) rfl
theorem dX12_digest_119 : decode cX12_digest 119 = .ok (.iaload, 1) := o_46 (u1_7 hc_X12_digest_112 rfl) rfl
theorem dX12_digest_120 : decode cX12_digest 120 = .ok (.i2l, 1) := o_133 (u1_8 hc_X12_digest_112 rfl) rfl
theorem dX12_digest_121 : decode cX12_digest 121 = .ok (.ladd, 1) := o_97 (u1_9 hc_X12_digest_112 rfl) rfl
theorem dX12_digest_122 : decode cX12_digest 122 = .ok (.lstore_n 1, 1) := o_64 (u1_10 hc_X12_digest_112 rfl) rfl
theorem dX12_digest_123 : decode cX12_digest 123 = .ok (.aload_n 0, 1) := o_42 (u1_11 hc_X12_digest_112 rfl) rfl
theorem dX12_digest_124 : decode cX12_digest 124 = .ok (.iload_n 3, 1) := o_29 (u1_12 hc_X12_digest_112 rfl) rfl
theorem dX12_digest_125 : decode cX12_digest 125 = .ok (.invokevirtual 208, 3) := o_182 (u1_13 hc_X12_digest_112 rfl) (u2_d (u1_14 hc_X12_digest_112 rfl) (u1_15 hc_X12_digest_112 rfl) rfl) rfl
theorem hc_X12_digest_128 : ((bL cX12_digest).drop 128).take 18 = [54, 4, 20, 1, 199, 20, 1, 199, 31, 105, 21, 4, 16, 247, 160, 0, 8, 16] := by decide +kernel
theorem dX12_digest_128 : decode cX12_digest 128 = .ok (.istore 4, 2) := o_54 (u1_0 hc_X12_digest_128 rfl) (u1_1 hc_X12_digest_128 rfl) rfl
theorem dX12_digest_130 : decode cX12_digest 130 = .ok (.ldc2_w 455, 3) := o_20 (u1_2 hc_X12_digest_128 rfl) (u2_d (u1_3 hc_X12_digest_128 rfl) (u1_4 hc_X12_digest_128 rfl) rfl) rfl
theorem dX12_digest_133 : decode cX12_digest 133 = .ok (.ldc2_w 455, 3) := o_20 (u1_5 hc_X12_digest_128 rfl) (u2_d (u1_6 hc_X12_digest_128 rfl) (u1_7 hc_X12_digest_128 rfl) rfl) rfl
theorem dX12_digest_136 : decode cX12_digest 136 = .ok (.lload_n 1, 1) := o_31 (u1_8 hc_X12_digest_128 rfl) rfl
theorem dX12_digest_137 : decode cX12_digest 137 = .ok (.lmul, 1) := o_105 (u1_9 hc_X12_digest_128 rfl) rfl
theorem dX12_digest_138 : decode cX12_digest 138 = .ok (.iload 4, 2) := o_21 (u1_10 hc_X12_digest_128 rfl) (u1_11 hc_X12_digest_128 rfl) rfl
theorem dX12_digest_140 : decode cX12_digest 140 = .ok (.bipush (-9), 2) := o_16 (u1_12 hc_X12_digest_128 rfl) (s1_d (u1_13 hc_X12_digest_128 rfl) rfl) rfl
theorem dX12_digest_142 : decode cX12_digest 142 = .ok (.if_icmp .ne 8, 3) := o_160 (u1_14 hc_X12_digest_128 rfl) (s2_d (u2_d (u1_15 hc_X12_digest_128 rfl) (u1_16 hc_X12_digest_128 rfl) rfl) rfl) rfl
theorem hc_X12_digest_144 : ((bL cX12_digest).drop 144).take 18 = [8, 16, 247, 167, 0, 10, 42, 180, 0, 25, 21, 4, 46, 133, 97, 105, 21, 4] := by decide +kernel
theorem dX12_digest_145 : decode cX12_digest 145 = .ok (.bipush (-9), 2) := o_16 (u1_1 hc_X12_digest_144 rfl) (s1_d (u1_2 hc_X12_digest_144 rfl) rfl) rfl
theorem dX12_digest_147 : decode cX12_digest 147 = .ok (.goto 10, 3) := o_167 (u1_3 hc_X12_digest_144 rfl) (s2_d (u2_d (u1_4 hc_X12_digest_144 rfl) (u1_5 hc_X12_digest_144 rfl) rfl) rfl) rfl
theorem dX12_digest_150 : decode cX12_digest 150 = .ok (.aload_n 0, 1) := o_42 (u1_6 hc_X12_digest_144 rfl) rfl
theorem dX12_digest_151 : decode cX12_digest 151 = .ok (.getfield 25, 3) := o_180 (u1_7 hc_X12_digest_144 rfl) (u2_d (u1_8 hc_X12_digest_144 rfl) (u1_9 hc_X12_digest_144 rfl) rfl) rfl
theorem dX12_digest_154 : decode cX12_digest 154 = .ok (.iload 4, 2) := o_21 (u1_10 hc_X12_digest_144 rfl) (u1_11 hc_X12_digest_144 rfl) rfl
theorem dX12_digest_156 : decode cX12_digest 156 = .ok (.iaload, 1) := o_46 (u1_12 hc_X12_digest_144 rfl) rfl
theorem dX12_digest_157 : decode cX12_digest 157 = .ok (.i2l, 1) := o_133 (u1_13 hc_X12_digest_144 rfl) rfl
theorem dX12_digest_158 : decode cX12_digest 158 = .ok (.ladd, 1) := o_97 (u1_14 hc_X12_digest_144 rfl) rfl
theorem dX12_digest_159 : decode cX12_digest 159 = .ok (.lmul, 1) := o_105 (u1_15 hc_X12_digest_144 rfl) rfl
theorem hc_X12_digest_160 : ((bL cX12_digest).drop 160).take 18 = [21, 4, 16, 247, 160, 0, 8, 16, 247, 167, 0, 10, 42, 180, 0, 31, 21, 4] := by decide +kernel
theorem dX12_digest_160 : decode cX12_digest 160 = .ok (.iload 4, 2) := o_21 (u1_0 hc_X12_digest_160 rfl) (u1_1 hc_X12_digest_160 rfl) rfl
theorem dX12_digest_162 : decode cX12_digest 162 = .ok (.bipush (-9), 2) := o_16 (u1_2 hc_X12_digest_160 rfl) (s1_d (u1_3 hc_X12_digest_160 rfl) rfl) rfl
theorem dX12_digest_164 : decode cX12_digest 164 = .ok (.if_icmp .ne 8, 3) := o_160 (u1_4 hc_X12_digest_160 rfl) (s2_d (u2_d (u1_5 hc_X12_digest_160 rfl) (u1_6 hc_X12_digest_160 rfl) rfl) rfl) rfl
theorem dX12_digest_167 : decode cX12_digest 167 = .ok (.bipush (-9), 2) := o_16 (u1_7 hc_X12_digest_160 rfl) (s1_d (u1_8 hc_X12_digest_160 rfl) rfl) rfl
theorem dX12_digest_169 : decode cX12_digest 169 = .ok (.goto 10, 3) := o_167 (u1_9 hc_X12_digest_160 rfl) (s2_d (u2_d (u1_10 hc_X12_digest_160 rfl) (u1_11 hc_X12_digest_160 rfl) rfl) rfl) rfl
theorem dX12_digest_172 : decode cX12_digest 172 = .ok (.aload_n 0, 1) := o_42 (u1_12 hc_X12_digest_160 rfl) rfl
theorem dX12_digest_173 : decode cX12_digest 173 = .ok (.getfield 31, 3) := o_180 (u1_13 hc_X12_digest_160 rfl) (u2_d (u1_14 hc_X12_digest_160 rfl) (u1_15 hc_X12_digest_160 rfl) rfl) rfl
theorem hc_X12_digest_176 : ((bL cX12_digest).drop 176).take 18 = [21, 4, 46, 133, 97, 64, 3, 54, 5, 21, 5, 16, 6, 162, 0, 33, 42, 180] := by decide +kernel
theorem dX12_digest_176 : decode cX12_digest 176 = .ok (.iload 4, 2) := o_21 (u1_0 hc_X12_digest_176 rfl) (u1_1 hc_X12_digest_176 rfl) rfl
theorem dX12_digest_178 : decode cX12_digest 178 = .ok (.iaload, 1) := o_46 (u1_2 hc_X12_digest_176 rfl) rfl
theorem dX12_digest_179 : decode cX12_digest 179 = .ok (.i2l, 1) := o_133 (u1_3 hc_X12_digest_176 rfl) rfl
theorem dX12_digest_180 : decode cX12_digest 180 = .ok (.ladd, 1) := o_97 (u1_4 hc_X12_digest_176 rfl) rfl
theorem dX12_digest_181 : decode cX12_digest 181 = .ok (.lstore_n 1, 1) := o_64 (u1_5 hc_X12_digest_176 rfl) rfl
theorem dX12_digest_182 : decode cX12_digest 182 = .ok (.iconst 0, 1) := o_3 (u1_6 hc_X12_digest_176 rfl) rfl
theorem dX12_digest_183 : decode cX12_digest 183 = .ok (.istore 5, 2) := o_54 (u1_7 hc_X12_digest_176 rfl) (u1_8 hc_X12_digest_176 rfl) rfl
theorem dX12_digest_185 : decode cX12_digest 185 = .ok (.iload 5, 2) := o_21 (u1_9 hc_X12_digest_176 rfl) (u1_10 hc_X12_digest_176 rfl) rfl
theorem dX12_digest_187 : decode cX12_digest 187 = .ok (.bipush 6, 2) := o_16 (u1_11 hc_X12_digest_176 rfl) (s1_d (u1_12 hc_X12_digest_176 rfl) rfl) rfl
theorem dX12_digest_189 : decode cX12_digest 189 = .ok (.if_icmp .ge 33, 3) := o_162 (u1_13 hc_X12_digest_176 rfl) (s2_d (u2_d (u1_14 hc_X12_digest_176 rfl) (u1_15 hc_X12_digest_176 rfl) rfl) rfl) rfl
theorem hc_X12_digest_192 : ((bL cX12_digest).drop 192).take 18 = [42, 180, 0, 155, 16, 247, 159, 0, 24, 20, 1, 199, 31, 105, 42, 29, 21, 5] := by decide +kernel
theorem dX12_digest_192 : decode cX12_digest 192 = .ok (.aload_n 0, 1) := o_42 (u1_0 hc_X12_digest_192 rfl) rfl
theorem dX12_digest_193 : decode cX12_digest 193 = .ok (.getfield 155, 3) := o_180 (u1_1 hc_X12_digest_192 rfl) (u2_d (u1_2 hc_X12_digest_192 rfl) (u1_3 hc_X12_digest_192 rfl) rfl) rfl
theorem dX12_digest_196 : decode cX12_digest 196 = .ok (.bipush (-9), 2) := o_16 (u1_4 hc_X12_digest_192 rfl) (s1_d (u1_5 hc_X12_digest_192 rfl) rfl) rfl
theorem dX12_digest_198 : decode cX12_digest 198 = .ok (.if_icmp .eq 24, 3) := o_159 (u1_6 hc_X12_digest_192 rfl) (s2_d (u2_d (u1_7 hc_X12_digest_192 rfl) (u1_8 hc_X12_digest_192 rfl) rfl) rfl) rfl
theorem dX12_digest_201 : decode cX12_digest 201 = .ok (.ldc2_w 455, 3) := o_20 (u1_9 hc_X12_digest_192 rfl) (u2_d (u1_10 hc_X12_digest_192 rfl) (u1_11 hc_X12_digest_192 rfl) rfl) rfl
theorem dX12_digest_204 : decode cX12_digest 204 = .ok (.lload_n 1, 1) := o_31 (u1_12 hc_X12_digest_192 rfl) rfl
theorem dX12_digest_205 : decode cX12_digest 205 = .ok (.lmul, 1) := o_105 (u1_13 hc_X12_digest_192 rfl) rfl
theorem dX12_digest_206 : decode cX12_digest 206 = .ok (.aload_n 0, 1) := o_42 (u1_14 hc_X12_digest_192 rfl) rfl
theorem dX12_digest_207 : decode cX12_digest 207 = .ok (.iload_n 3, 1) := o_29 (u1_15 hc_X12_digest_192 rfl) rfl
theorem hc_X12_digest_208 : ((bL cX12_digest).drop 208).take 18 = [21, 5, 182, 1, 151, 133, 97, 64, 132, 5, 1, 167, 255, 222, 132, 3, 1, 167] := by decide +kernel
theorem dX12_digest_208 : decode cX12_digest 208 = .ok (.iload 5, 2) := o_21 (u1_0 hc_X12_digest_208 rfl) (u1_1 hc_X12_digest_208 rfl) rfl
theorem dX12_digest_210 : decode cX12_digest 210 = .ok (.invokevirtual 407, 3) := o_182 (u1_2 hc_X12_digest_208 rfl) (u2_d (u1_3 hc_X12_digest_208 rfl) (u1_4 hc_X12_digest_208 rfl) rfl) rfl
theorem dX12_digest_213 : decode cX12_digest 213 = .ok (.i2l, 1) := o_133 (u1_5 hc_X12_digest_208 rfl) rfl
theorem dX12_digest_214 : decode cX12_digest 214 = .ok (.ladd, 1) := o_97 (u1_6 hc_X12_digest_208 rfl) rfl
theorem dX12_digest_215 : decode cX12_digest 215 = .ok (.lstore_n 1, 1) := o_64 (u1_7 hc_X12_digest_208 rfl) rfl
theorem dX12_digest_216 : decode cX12_digest 216 = .ok (.iinc 5 1, 3) := o_132 (u1_8 hc_X12_digest_208 rfl) (u1_9 hc_X12_digest_208 rfl) (s1_d (u1_10 hc_X12_digest_208 rfl) rfl) rfl
theorem dX12_digest_219 : decode cX12_digest 219 = .ok (.goto (-34), 3) := o_167 (u1_11 hc_X12_digest_208 rfl) (s2_d (u2_d (u1_12 hc_X12_digest_208 rfl) (u1_13 hc_X12_digest_208 rfl) rfl) rfl) rfl
theorem dX12_digest_222 : decode cX12_digest 222 = .ok (.iinc 3 1, 3) := o_132 (u1_14 hc_X12_digest_208 rfl) (u1_15 hc_X12_digest_208 rfl) (s1_d (u1_16 hc_X12_digest_208 rfl) rfl) rfl
theorem hc_X12_digest_224 : ((bL cX12_digest).drop 224).take 18 = [1, 167, 255, 120, 3, 62, 29, 42, 180, 0, 202, 162, 0, 39, 3, 54, 4, 21] := by decide +kernel
theorem dX12_digest_225 : decode cX12_digest 225 = .ok (.goto (-136), 3) := o_167 (u1_1 hc_X12_digest_224 rfl) (s2_d (u2_d (u1_2 hc_X12_digest_224 rfl) (u1_3 hc_X12_digest_224 rfl) rfl) rfl) rfl
theorem dX12_digest_228 : decode cX12_digest 228 = .ok (.iconst 0, 1) := o_3 (u1_4 hc_X12_digest_224 rfl) rfl
theorem dX12_digest_229 : decode cX12_digest 229 = .ok (.istore_n 3, 1) := o_62 (u1_5 hc_X12_digest_224 rfl) rfl
theorem dX12_digest_230 : decode cX12_digest 230 = .ok (.iload_n 3, 1) := o_29 (u1_6 hc_X12_digest_224 rfl) rfl
theorem dX12_digest_231 : decode cX12_digest 231 = .ok (.aload_n 0, 1) := o_42 (u1_7 hc_X12_digest_224 rfl) rfl
theorem dX12_digest_232 : decode cX12_digest 232 = .ok (.getfield 202, 3) := o_180 (u1_8 hc_X12_digest_224 rfl) (u2_d (u1_9 hc_X12_digest_224 rfl) (u1_10 hc_X12_digest_224 rfl) rfl) rfl
theorem dX12_digest_235 : decode cX12_digest 235 = .ok (.if_icmp .ge 39, 3) := o_162 (u1_11 hc_X12_digest_224 rfl) (s2_d (u2_d (u1_12 hc_X12_digest_224 rfl) (u1_13 hc_X12_digest_224 rfl) rfl) rfl) rfl
theorem dX12_digest_238 : decode cX12_digest 238 = .ok (.iconst 0, 1) := o_3 (u1_14 hc_X12_digest_224 rfl) rfl
theorem dX12_digest_239 : decode cX12_digest 239 = .ok (.istore 4, 2) := o_54 (u1_15 hc_X12_digest_224 rfl) (u1_16 hc_X12_digest_224 rfl) rfl
theorem hc_X12_digest_240 : ((bL cX12_digest).drop 240).take 18 = [4, 21, 4, 8, 162, 0, 24, 20, 1, 199, 31, 105, 42, 29, 21, 4, 182, 1] := by decide +kernel
theorem dX12_digest_241 : decode cX12_digest 241 = .ok (.iload 4, 2) := o_21 (u1_1 hc_X12_digest_240 rfl) (u1_2 hc_X12_digest_240 rfl) rfl
theorem dX12_digest_243 : decode cX12_digest 243 = .ok (.iconst 5, 1) := o_8 (u1_3 hc_X12_digest_240 rfl) rfl
theorem dX12_digest_244 : decode cX12_digest 244 = .ok (.if_icmp .ge 24, 3) := o_162 (u1_4 hc_X12_digest_240 rfl) (s2_d (u2_d (u1_5 hc_X12_digest_240 rfl) (u1_6 hc_X12_digest_240 rfl) rfl) rfl) rfl
theorem dX12_digest_247 : decode cX12_digest 247 = .ok (.ldc2_w 455, 3) := o_20 (u1_7 hc_X12_digest_240 rfl) (u2_d (u1_8 hc_X12_digest_240 rfl) (u1_9 hc_X12_digest_240 rfl) rfl) rfl
theorem dX12_digest_250 : decode cX12_digest 250 = .ok (.lload_n 1, 1) := o_31 (u1_10 hc_X12_digest_240 rfl) rfl
theorem dX12_digest_251 : decode cX12_digest 251 = .ok (.lmul, 1) := o_105 (u1_11 hc_X12_digest_240 rfl) rfl
theorem dX12_digest_252 : decode cX12_digest 252 = .ok (.aload_n 0, 1) := o_42 (u1_12 hc_X12_digest_240 rfl) rfl
theorem dX12_digest_253 : decode cX12_digest 253 = .ok (.iload_n 3, 1) := o_29 (u1_13 hc_X12_digest_240 rfl) rfl
theorem dX12_digest_254 : decode cX12_digest 254 = .ok (.iload 4, 2) := o_21 (u1_14 hc_X12_digest_240 rfl) (u1_15 hc_X12_digest_240 rfl) rfl
theorem hc_X12_digest_256 : ((bL cX12_digest).drop 256).take 18 = [182, 1, 201, 133, 97, 64, 132, 4, 1, 167, 255, 232, 132, 3, 1, 167, 255, 215] := by decide +kernel
theorem dX12_digest_256 : decode cX12_digest 256 = .ok (.invokevirtual 457, 3) := o_182 (u1_0 hc_X12_digest_256 rfl) (u2_d (u1_1 hc_X12_digest_256 rfl) (u1_2 hc_X12_digest_256 rfl) rfl) rfl
theorem dX12_digest_259 : decode cX12_digest 259 = .ok (.i2l, 1) := o_133 (u1_3 hc_X12_digest_256 rfl) rfl
theorem dX12_digest_260 : decode cX12_digest 260 = .ok (.ladd, 1) := o_97 (u1_4 hc_X12_digest_256 rfl) rfl
theorem dX12_digest_261 : decode cX12_digest 261 = .ok (.lstore_n 1, 1) := o_64 (u1_5 hc_X12_digest_256 rfl) rfl
theorem dX12_digest_262 : decode cX12_digest 262 = .ok (.iinc 4 1, 3) := o_132 (u1_6 hc_X12_digest_256 rfl) (u1_7 hc_X12_digest_256 rfl) (s1_d (u1_8 hc_X12_digest_256 rfl) rfl) rfl
theorem dX12_digest_265 : decode cX12_digest 265 = .ok (.goto (-24), 3) := o_167 (u1_9 hc_X12_digest_256 rfl) (s2_d (u2_d (u1_10 hc_X12_digest_256 rfl) (u1_11 hc_X12_digest_256 rfl) rfl) rfl) rfl
theorem dX12_digest_268 : decode cX12_digest 268 = .ok (.iinc 3 1, 3) := o_132 (u1_12 hc_X12_digest_256 rfl) (u1_13 hc_X12_digest_256 rfl) (s1_d (u1_14 hc_X12_digest_256 rfl) rfl) rfl
theorem dX12_digest_271 : decode cX12_digest 271 = .ok (.goto (-41), 3) := o_167 (u1_15 hc_X12_digest_256 rfl) (s2_d (u2_d (u1_16 hc_X12_digest_256 rfl) (u1_17 hc_X12_digest_256 rfl) rfl) rfl) rfl
theorem hc_X12_digest_272 : ((bL cX12_digest).drop 272).take 18 = [255, 215, 31, 173] := by decide +kernel
theorem dX12_digest_274 : decode cX12_digest 274 = .ok (.lload_n 1, 1) := o_31 (u1_2 hc_X12_digest_272 rfl) rfl
theorem dX12_digest_275 : decode cX12_digest 275 = .ok (.lreturn, 1) := o_173 (u1_3 hc_X12_digest_272 rfl) rfl
theorem hc_J7_fill_53178_0 : ((bL cJ7_fill_53178).drop 0).take 18 = [3, 61, 42, 190, 62, 28, 29, 162, 0, 13, 42, 28, 27, 79, 132, 2, 1, 167] := by decide +kernel
theorem dJ7_fill_53178_0 : decode cJ7_fill_53178 0 = .ok (.iconst 0, 1) := o_3 (u1_0 hc_J7_fill_53178_0 rfl) rfl
theorem dJ7_fill_53178_1 : decode cJ7_fill_53178 1 = .ok (.istore_n 2, 1) := o_61 (u1_1 hc_J7_fill_53178_0 rfl) rfl
theorem dJ7_fill_53178_2 : decode cJ7_fill_53178 2 = .ok (.aload_n 0, 1) := o_42 (u1_2 hc_J7_fill_53178_0 rfl) rfl
theorem dJ7_fill_53178_3 : decode cJ7_fill_53178 3 = .ok (.arraylength, 1) := o_190 (u1_3 hc_J7_fill_53178_0 rfl) rfl
theorem dJ7_fill_53178_4 : decode cJ7_fill_53178 4 = .ok (.istore_n 3, 1) := o_62 (u1_4 hc_J7_fill_53178_0 rfl) rfl
theorem dJ7_fill_53178_5 : decode cJ7_fill_53178 5 = .ok (.iload_n 2, 1) := o_28 (u1_5 hc_J7_fill_53178_0 rfl) rfl
theorem dJ7_fill_53178_6 : decode cJ7_fill_53178 6 = .ok (.iload_n 3, 1) := o_29 (u1_6 hc_J7_fill_53178_0 rfl) rfl
theorem dJ7_fill_53178_7 : decode cJ7_fill_53178 7 = .ok (.if_icmp .ge 13, 3) := o_162 (u1_7 hc_J7_fill_53178_0 rfl) (s2_d (u2_d (u1_8 hc_J7_fill_53178_0 rfl) (u1_9 hc_J7_fill_53178_0 rfl) rfl) rfl) rfl
theorem dJ7_fill_53178_10 : decode cJ7_fill_53178 10 = .ok (.aload_n 0, 1) := o_42 (u1_10 hc_J7_fill_53178_0 rfl) rfl
theorem dJ7_fill_53178_11 : decode cJ7_fill_53178 11 = .ok (.iload_n 2, 1) := o_28 (u1_11 hc_J7_fill_53178_0 rfl) rfl
theorem dJ7_fill_53178_12 : decode cJ7_fill_53178 12 = .ok (.iload_n 1, 1) := o_27 (u1_12 hc_J7_fill_53178_0 rfl) rfl
theorem dJ7_fill_53178_13 : decode cJ7_fill_53178 13 = .ok (.iastore, 1) := o_79 (u1_13 hc_J7_fill_53178_0 rfl) rfl
theorem dJ7_fill_53178_14 : decode cJ7_fill_53178 14 = .ok (.iinc 2 1, 3) := o_132 (u1_14 hc_J7_fill_53178_0 rfl) (u1_15 hc_J7_fill_53178_0 rfl) (s1_d (u1_16 hc_J7_fill_53178_0 rfl) rfl) rfl
theorem hc_J7_fill_53178_16 : ((bL cJ7_fill_53178).drop 16).take 18 = [1, 167, 255, 244, 177] := by decide +kernel
theorem dJ7_fill_53178_17 : decode cJ7_fill_53178 17 = .ok (.goto (-12), 3) := o_167 (u1_1 hc_J7_fill_53178_16 rfl) (s2_d (u2_d (u1_2 hc_J7_fill_53178_16 rfl) (u1_3 hc_J7_fill_53178_16 rfl) rfl) rfl) rfl
theorem dJ7_fill_53178_20 : decode cJ7_fill_53178 20 = .ok (.return_, 1) := o_177 (u1_4 hc_J7_fill_53178_16 rfl) rfl
theorem hc_L_law_0 : ((bL cL_law).drop 0).take 18 = [187, 0, 7, 89, 183, 0, 9, 76, 187, 0, 10, 89, 183, 0, 12, 77, 3, 62] := by decide +kernel
theorem dL_law_0 : decode cL_law 0 = .ok (.new 7, 3) := o_187 (u1_0 hc_L_law_0 rfl) (u2_d (u1_1 hc_L_law_0 rfl) (u1_2 hc_L_law_0 rfl) rfl) rfl
theorem dL_law_3 : decode cL_law 3 = .ok (.dup, 1) := o_89 (u1_3 hc_L_law_0 rfl) rfl
theorem dL_law_4 : decode cL_law 4 = .ok (.invokespecial 9, 3) := o_183 (u1_4 hc_L_law_0 rfl) (u2_d (u1_5 hc_L_law_0 rfl) (u1_6 hc_L_law_0 rfl) rfl) rfl
theorem dL_law_7 : decode cL_law 7 = .ok (.astore_n 1, 1) := o_76 (u1_7 hc_L_law_0 rfl) rfl
theorem dL_law_8 : decode cL_law 8 = .ok (.new 10, 3) := o_187 (u1_8 hc_L_law_0 rfl) (u2_d (u1_9 hc_L_law_0 rfl) (u1_10 hc_L_law_0 rfl) rfl) rfl
theorem dL_law_11 : decode cL_law 11 = .ok (.dup, 1) := o_89 (u1_11 hc_L_law_0 rfl) rfl
theorem dL_law_12 : decode cL_law 12 = .ok (.invokespecial 12, 3) := o_183 (u1_12 hc_L_law_0 rfl) (u2_d (u1_13 hc_L_law_0 rfl) (u1_14 hc_L_law_0 rfl) rfl) rfl
theorem dL_law_15 : decode cL_law 15 = .ok (.astore_n 2, 1) := o_77 (u1_15 hc_L_law_0 rfl) rfl
theorem hc_L_law_16 : ((bL cL_law).drop 16).take 18 = [3, 62, 29, 42, 190, 16, 7, 100, 163, 5, 163, 42, 29, 46, 16, 63, 126, 170] := by decide +kernel
theorem dL_law_16 : decode cL_law 16 = .ok (.iconst 0, 1) := o_3 (u1_0 hc_L_law_16 rfl) rfl
theorem dL_law_17 : decode cL_law 17 = .ok (.istore_n 3, 1) := o_62 (u1_1 hc_L_law_16 rfl) rfl
theorem dL_law_18 : decode cL_law 18 = .ok (.iload_n 3, 1) := o_29 (u1_2 hc_L_law_16 rfl) rfl
theorem dL_law_19 : decode cL_law 19 = .ok (.aload_n 0, 1) := o_42 (u1_3 hc_L_law_16 rfl) rfl
theorem dL_law_20 : decode cL_law 20 = .ok (.arraylength, 1) := o_190 (u1_4 hc_L_law_16 rfl) rfl
theorem dL_law_21 : decode cL_law 21 = .ok (.bipush 7, 2) := o_16 (u1_5 hc_L_law_16 rfl) (s1_d (u1_6 hc_L_law_16 rfl) rfl) rfl
theorem dL_law_23 : decode cL_law 23 = .ok (.isub, 1) := o_100 (u1_7 hc_L_law_16 rfl) rfl
theorem dL_law_24 : decode cL_law 24 = .ok (.if_icmp .gt 1443, 3) := o_163 (u1_8 hc_L_law_16 rfl) (s2_d (u2_d (u1_9 hc_L_law_16 rfl) (u1_10 hc_L_law_16 rfl) rfl) rfl) rfl
theorem dL_law_27 : decode cL_law 27 = .ok (.aload_n 0, 1) := o_42 (u1_11 hc_L_law_16 rfl) rfl
theorem dL_law_28 : decode cL_law 28 = .ok (.iload_n 3, 1) := o_29 (u1_12 hc_L_law_16 rfl) rfl
theorem dL_law_29 : decode cL_law 29 = .ok (.iaload, 1) := o_46 (u1_13 hc_L_law_16 rfl) rfl
theorem dL_law_30 : decode cL_law 30 = .ok (.bipush 63, 2) := o_16 (u1_14 hc_L_law_16 rfl) (s1_d (u1_15 hc_L_law_16 rfl) rfl) rfl
theorem hc_L_law_32 : ((bL cL_law).drop 32).take 18 = [126, 170, 0, 0, 0, 0, 5, 148, 0, 0, 0, 0, 0, 0, 0, 36, 0, 0] := by decide +kernel
theorem dL_law_32 : decode cL_law 32 = .ok (.iand, 1) := o_126 (u1_0 hc_L_law_32 rfl) rfl
theorem dL_law_33 : decode cL_law 33 = .ok (.tableswitch 1428 0 36 #[163, 186, 229, 262, 295, 318, 331, 354, 387, 440, 463, 486, 519, 552, 595, 628, 651, 710, 769, 792, 835, 848, 881, 914, 927, 970, 1003, 1046, 1129, 1172, 1247, 1280, 1323, 1356, 1379, 1392, 1415], 163) := by decide +kernel
theorem hc_L_law_192 : ((bL cL_law).drop 192).take 18 = [0, 0, 5, 135, 43, 42, 29, 4, 96, 46, 182, 0, 13, 87, 44, 42, 29, 4] := by decide +kernel
theorem dL_law_196 : decode cL_law 196 = .ok (.aload_n 1, 1) := o_43 (u1_4 hc_L_law_192 rfl) rfl
theorem dL_law_197 : decode cL_law 197 = .ok (.aload_n 0, 1) := o_42 (u1_5 hc_L_law_192 rfl) rfl
theorem dL_law_198 : decode cL_law 198 = .ok (.iload_n 3, 1) := o_29 (u1_6 hc_L_law_192 rfl) rfl
theorem dL_law_199 : decode cL_law 199 = .ok (.iconst 1, 1) := o_4 (u1_7 hc_L_law_192 rfl) rfl
theorem dL_law_200 : decode cL_law 200 = .ok (.iadd, 1) := o_96 (u1_8 hc_L_law_192 rfl) rfl
theorem dL_law_201 : decode cL_law 201 = .ok (.iaload, 1) := o_46 (u1_9 hc_L_law_192 rfl) rfl
theorem dL_law_202 : decode cL_law 202 = .ok (.invokevirtual 13, 3) := o_182 (u1_10 hc_L_law_192 rfl) (u2_d (u1_11 hc_L_law_192 rfl) (u1_12 hc_L_law_192 rfl) rfl) rfl
theorem dL_law_205 : decode cL_law 205 = .ok (.pop, 1) := o_87 (u1_13 hc_L_law_192 rfl) rfl
theorem dL_law_206 : decode cL_law 206 = .ok (.aload_n 2, 1) := o_44 (u1_14 hc_L_law_192 rfl) rfl
theorem dL_law_207 : decode cL_law 207 = .ok (.aload_n 0, 1) := o_42 (u1_15 hc_L_law_192 rfl) rfl
theorem hc_L_law_208 : ((bL cL_law).drop 208).take 18 = [29, 4, 96, 46, 182, 0, 17, 87, 167, 4, 221, 43, 42, 29, 4, 96, 46, 42] := by decide +kernel
theorem dL_law_208 : decode cL_law 208 = .ok (.iload_n 3, 1) := o_29 (u1_0 hc_L_law_208 rfl) rfl
theorem dL_law_209 : decode cL_law 209 = .ok (.iconst 1, 1) := o_4 (u1_1 hc_L_law_208 rfl) rfl
theorem dL_law_210 : decode cL_law 210 = .ok (.iadd, 1) := o_96 (u1_2 hc_L_law_208 rfl) rfl
theorem dL_law_211 : decode cL_law 211 = .ok (.iaload, 1) := o_46 (u1_3 hc_L_law_208 rfl) rfl
theorem dL_law_212 : decode cL_law 212 = .ok (.invokevirtual 17, 3) := o_182 (u1_4 hc_L_law_208 rfl) (u2_d (u1_5 hc_L_law_208 rfl) (u1_6 hc_L_law_208 rfl) rfl) rfl
theorem dL_law_215 : decode cL_law 215 = .ok (.pop, 1) := o_87 (u1_7 hc_L_law_208 rfl) rfl
theorem dL_law_216 : decode cL_law 216 = .ok (.goto 1245, 3) := o_167 (u1_8 hc_L_law_208 rfl) (s2_d (u2_d (u1_9 hc_L_law_208 rfl) (u1_10 hc_L_law_208 rfl) rfl) rfl) rfl
theorem dL_law_219 : decode cL_law 219 = .ok (.aload_n 1, 1) := o_43 (u1_11 hc_L_law_208 rfl) rfl
theorem dL_law_220 : decode cL_law 220 = .ok (.aload_n 0, 1) := o_42 (u1_12 hc_L_law_208 rfl) rfl
theorem dL_law_221 : decode cL_law 221 = .ok (.iload_n 3, 1) := o_29 (u1_13 hc_L_law_208 rfl) rfl
theorem dL_law_222 : decode cL_law 222 = .ok (.iconst 1, 1) := o_4 (u1_14 hc_L_law_208 rfl) rfl
theorem dL_law_223 : decode cL_law 223 = .ok (.iadd, 1) := o_96 (u1_15 hc_L_law_208 rfl) rfl
theorem hc_L_law_224 : ((bL cL_law).drop 224).take 18 = [46, 42, 29, 5, 96, 46, 42, 29, 6, 96, 46, 182, 0, 18, 87, 44, 42, 29] := by decide +kernel
theorem dL_law_224 : decode cL_law 224 = .ok (.iaload, 1) := o_46 (u1_0 hc_L_law_224 rfl) rfl
theorem dL_law_225 : decode cL_law 225 = .ok (.aload_n 0, 1) := o_42 (u1_1 hc_L_law_224 rfl) rfl
theorem dL_law_226 : decode cL_law 226 = .ok (.iload_n 3, 1) := o_29 (u1_2 hc_L_law_224 rfl) rfl
theorem dL_law_227 : decode cL_law 227 = .ok (.iconst 2, 1) := o_5 (u1_3 hc_L_law_224 rfl) rfl
theorem dL_law_228 : decode cL_law 228 = .ok (.iadd, 1) := o_96 (u1_4 hc_L_law_224 rfl) rfl
theorem dL_law_229 : decode cL_law 229 = .ok (.iaload, 1) := o_46 (u1_5 hc_L_law_224 rfl) rfl
theorem dL_law_230 : decode cL_law 230 = .ok (.aload_n 0, 1) := o_42 (u1_6 hc_L_law_224 rfl) rfl
theorem dL_law_231 : decode cL_law 231 = .ok (.iload_n 3, 1) := o_29 (u1_7 hc_L_law_224 rfl) rfl
theorem dL_law_232 : decode cL_law 232 = .ok (.iconst 3, 1) := o_6 (u1_8 hc_L_law_224 rfl) rfl
theorem dL_law_233 : decode cL_law 233 = .ok (.iadd, 1) := o_96 (u1_9 hc_L_law_224 rfl) rfl
theorem dL_law_234 : decode cL_law 234 = .ok (.iaload, 1) := o_46 (u1_10 hc_L_law_224 rfl) rfl
theorem dL_law_235 : decode cL_law 235 = .ok (.invokevirtual 18, 3) := o_182 (u1_11 hc_L_law_224 rfl) (u2_d (u1_12 hc_L_law_224 rfl) (u1_13 hc_L_law_224 rfl) rfl) rfl
theorem dL_law_238 : decode cL_law 238 = .ok (.pop, 1) := o_87 (u1_14 hc_L_law_224 rfl) rfl
theorem dL_law_239 : decode cL_law 239 = .ok (.aload_n 2, 1) := o_44 (u1_15 hc_L_law_224 rfl) rfl
theorem hc_L_law_240 : ((bL cL_law).drop 240).take 18 = [42, 29, 4, 96, 46, 42, 29, 5, 96, 46, 42, 29, 6, 96, 46, 182, 0, 22] := by decide +kernel
theorem dL_law_240 : decode cL_law 240 = .ok (.aload_n 0, 1) := o_42 (u1_0 hc_L_law_240 rfl) rfl
theorem dL_law_241 : decode cL_law 241 = .ok (.iload_n 3, 1) := o_29 (u1_1 hc_L_law_240 rfl) rfl
theorem dL_law_242 : decode cL_law 242 = .ok (.iconst 1, 1) := o_4 (u1_2 hc_L_law_240 rfl) rfl
theorem dL_law_243 : decode cL_law 243 = .ok (.iadd, 1) := o_96 (u1_3 hc_L_law_240 rfl) rfl
theorem dL_law_244 : decode cL_law 244 = .ok (.iaload, 1) := o_46 (u1_4 hc_L_law_240 rfl) rfl
theorem dL_law_245 : decode cL_law 245 = .ok (.aload_n 0, 1) := o_42 (u1_5 hc_L_law_240 rfl) rfl
theorem dL_law_246 : decode cL_law 246 = .ok (.iload_n 3, 1) := o_29 (u1_6 hc_L_law_240 rfl) rfl
theorem dL_law_247 : decode cL_law 247 = .ok (.iconst 2, 1) := o_5 (u1_7 hc_L_law_240 rfl) rfl
theorem dL_law_248 : decode cL_law 248 = .ok (.iadd, 1) := o_96 (u1_8 hc_L_law_240 rfl) rfl
theorem dL_law_249 : decode cL_law 249 = .ok (.iaload, 1) := o_46 (u1_9 hc_L_law_240 rfl) rfl
theorem dL_law_250 : decode cL_law 250 = .ok (.aload_n 0, 1) := o_42 (u1_10 hc_L_law_240 rfl) rfl
theorem dL_law_251 : decode cL_law 251 = .ok (.iload_n 3, 1) := o_29 (u1_11 hc_L_law_240 rfl) rfl
theorem dL_law_252 : decode cL_law 252 = .ok (.iconst 3, 1) := o_6 (u1_12 hc_L_law_240 rfl) rfl
theorem dL_law_253 : decode cL_law 253 = .ok (.iadd, 1) := o_96 (u1_13 hc_L_law_240 rfl) rfl
theorem dL_law_254 : decode cL_law 254 = .ok (.iaload, 1) := o_46 (u1_14 hc_L_law_240 rfl) rfl
theorem dL_law_255 : decode cL_law 255 = .ok (.invokevirtual 22, 3) := o_182 (u1_15 hc_L_law_240 rfl) (u2_d (u1_16 hc_L_law_240 rfl) (u1_17 hc_L_law_240 rfl) rfl) rfl
theorem hc_L_law_256 : ((bL cL_law).drop 256).take 18 = [0, 22, 87, 167, 4, 178, 43, 42, 29, 4, 96, 46, 42, 29, 5, 96, 46, 182] := by decide +kernel
theorem dL_law_258 : decode cL_law 258 = .ok (.pop, 1) := o_87 (u1_2 hc_L_law_256 rfl) rfl
theorem dL_law_259 : decode cL_law 259 = .ok (.goto 1202, 3) := o_167 (u1_3 hc_L_law_256 rfl) (s2_d (u2_d (u1_4 hc_L_law_256 rfl) (u1_5 hc_L_law_256 rfl) rfl) rfl) rfl
theorem dL_law_262 : decode cL_law 262 = .ok (.aload_n 1, 1) := o_43 (u1_6 hc_L_law_256 rfl) rfl
theorem dL_law_263 : decode cL_law 263 = .ok (.aload_n 0, 1) := o_42 (u1_7 hc_L_law_256 rfl) rfl
theorem dL_law_264 : decode cL_law 264 = .ok (.iload_n 3, 1) := o_29 (u1_8 hc_L_law_256 rfl) rfl
theorem dL_law_265 : decode cL_law 265 = .ok (.iconst 1, 1) := o_4 (u1_9 hc_L_law_256 rfl) rfl
theorem dL_law_266 : decode cL_law 266 = .ok (.iadd, 1) := o_96 (u1_10 hc_L_law_256 rfl) rfl
theorem dL_law_267 : decode cL_law 267 = .ok (.iaload, 1) := o_46 (u1_11 hc_L_law_256 rfl) rfl
theorem dL_law_268 : decode cL_law 268 = .ok (.aload_n 0, 1) := o_42 (u1_12 hc_L_law_256 rfl) rfl
theorem dL_law_269 : decode cL_law 269 = .ok (.iload_n 3, 1) := o_29 (u1_13 hc_L_law_256 rfl) rfl
theorem dL_law_270 : decode cL_law 270 = .ok (.iconst 2, 1) := o_5 (u1_14 hc_L_law_256 rfl) rfl
theorem dL_law_271 : decode cL_law 271 = .ok (.iadd, 1) := o_96 (u1_15 hc_L_law_256 rfl) rfl
theorem hc_L_law_272 : ((bL cL_law).drop 272).take 18 = [46, 182, 0, 23, 87, 44, 42, 29, 4, 96, 46, 42, 29, 5, 96, 46, 182, 0] := by decide +kernel
theorem dL_law_272 : decode cL_law 272 = .ok (.iaload, 1) := o_46 (u1_0 hc_L_law_272 rfl) rfl
theorem dL_law_273 : decode cL_law 273 = .ok (.invokevirtual 23, 3) := o_182 (u1_1 hc_L_law_272 rfl) (u2_d (u1_2 hc_L_law_272 rfl) (u1_3 hc_L_law_272 rfl) rfl) rfl
theorem dL_law_276 : decode cL_law 276 = .ok (.pop, 1) := o_87 (u1_4 hc_L_law_272 rfl) rfl
theorem dL_law_277 : decode cL_law 277 = .ok (.aload_n 2, 1) := o_44 (u1_5 hc_L_law_272 rfl) rfl
theorem dL_law_278 : decode cL_law 278 = .ok (.aload_n 0, 1) := o_42 (u1_6 hc_L_law_272 rfl) rfl
theorem dL_law_279 : decode cL_law 279 = .ok (.iload_n 3, 1) := o_29 (u1_7 hc_L_law_272 rfl) rfl
theorem dL_law_280 : decode cL_law 280 = .ok (.iconst 1, 1) := o_4 (u1_8 hc_L_law_272 rfl) rfl
theorem dL_law_281 : decode cL_law 281 = .ok (.iadd, 1) := o_96 (u1_9 hc_L_law_272 rfl) rfl
theorem dL_law_282 : decode cL_law 282 = .ok (.iaload, 1) := o_46 (u1_10 hc_L_law_272 rfl) rfl
theorem dL_law_283 : decode cL_law 283 = .ok (.aload_n 0, 1) := o_42 (u1_11 hc_L_law_272 rfl) rfl
theorem dL_law_284 : decode cL_law 284 = .ok (.iload_n 3, 1) := o_29 (u1_12 hc_L_law_272 rfl) rfl
theorem dL_law_285 : decode cL_law 285 = .ok (.iconst 2, 1) := o_5 (u1_13 hc_L_law_272 rfl) rfl
theorem dL_law_286 : decode cL_law 286 = .ok (.iadd, 1) := o_96 (u1_14 hc_L_law_272 rfl) rfl
theorem dL_law_287 : decode cL_law 287 = .ok (.iaload, 1) := o_46 (u1_15 hc_L_law_272 rfl) rfl
theorem hc_L_law_288 : ((bL cL_law).drop 288).take 18 = [182, 0, 27, 87, 167, 4, 145, 43, 42, 29, 4, 96, 46, 42, 29, 5, 96, 46] := by decide +kernel
theorem dL_law_288 : decode cL_law 288 = .ok (.invokevirtual 27, 3) := o_182 (u1_0 hc_L_law_288 rfl) (u2_d (u1_1 hc_L_law_288 rfl) (u1_2 hc_L_law_288 rfl) rfl) rfl
theorem dL_law_291 : decode cL_law 291 = .ok (.pop, 1) := o_87 (u1_3 hc_L_law_288 rfl) rfl
theorem dL_law_292 : decode cL_law 292 = .ok (.goto 1169, 3) := o_167 (u1_4 hc_L_law_288 rfl) (s2_d (u2_d (u1_5 hc_L_law_288 rfl) (u1_6 hc_L_law_288 rfl) rfl) rfl) rfl
theorem dL_law_295 : decode cL_law 295 = .ok (.aload_n 1, 1) := o_43 (u1_7 hc_L_law_288 rfl) rfl
theorem dL_law_296 : decode cL_law 296 = .ok (.aload_n 0, 1) := o_42 (u1_8 hc_L_law_288 rfl) rfl
theorem dL_law_297 : decode cL_law 297 = .ok (.iload_n 3, 1) := o_29 (u1_9 hc_L_law_288 rfl) rfl
theorem dL_law_298 : decode cL_law 298 = .ok (.iconst 1, 1) := o_4 (u1_10 hc_L_law_288 rfl) rfl
theorem dL_law_299 : decode cL_law 299 = .ok (.iadd, 1) := o_96 (u1_11 hc_L_law_288 rfl) rfl
theorem dL_law_300 : decode cL_law 300 = .ok (.iaload, 1) := o_46 (u1_12 hc_L_law_288 rfl) rfl
theorem dL_law_301 : decode cL_law 301 = .ok (.aload_n 0, 1) := o_42 (u1_13 hc_L_law_288 rfl) rfl
theorem dL_law_302 : decode cL_law 302 = .ok (.iload_n 3, 1) := o_29 (u1_14 hc_L_law_288 rfl) rfl
theorem dL_law_303 : decode cL_law 303 = .ok (.iconst 2, 1) := o_5 (u1_15 hc_L_law_288 rfl) rfl
theorem hc_L_law_304 : ((bL cL_law).drop 304).take 18 = [96, 46, 182, 0, 28, 87, 44, 42, 29, 4, 96, 46, 42, 29, 5, 96, 46, 182] := by decide +kernel
theorem dL_law_304 : decode cL_law 304 = .ok (.iadd, 1) := o_96 (u1_0 hc_L_law_304 rfl) rfl
theorem dL_law_305 : decode cL_law 305 = .ok (.iaload, 1) := o_46 (u1_1 hc_L_law_304 rfl) rfl
theorem dL_law_306 : decode cL_law 306 = .ok (.invokevirtual 28, 3) := o_182 (u1_2 hc_L_law_304 rfl) (u2_d (u1_3 hc_L_law_304 rfl) (u1_4 hc_L_law_304 rfl) rfl) rfl
theorem dL_law_309 : decode cL_law 309 = .ok (.pop, 1) := o_87 (u1_5 hc_L_law_304 rfl) rfl
theorem dL_law_310 : decode cL_law 310 = .ok (.aload_n 2, 1) := o_44 (u1_6 hc_L_law_304 rfl) rfl
theorem dL_law_311 : decode cL_law 311 = .ok (.aload_n 0, 1) := o_42 (u1_7 hc_L_law_304 rfl) rfl
theorem dL_law_312 : decode cL_law 312 = .ok (.iload_n 3, 1) := o_29 (u1_8 hc_L_law_304 rfl) rfl
theorem dL_law_313 : decode cL_law 313 = .ok (.iconst 1, 1) := o_4 (u1_9 hc_L_law_304 rfl) rfl
theorem dL_law_314 : decode cL_law 314 = .ok (.iadd, 1) := o_96 (u1_10 hc_L_law_304 rfl) rfl
theorem dL_law_315 : decode cL_law 315 = .ok (.iaload, 1) := o_46 (u1_11 hc_L_law_304 rfl) rfl
theorem dL_law_316 : decode cL_law 316 = .ok (.aload_n 0, 1) := o_42 (u1_12 hc_L_law_304 rfl) rfl
theorem dL_law_317 : decode cL_law 317 = .ok (.iload_n 3, 1) := o_29 (u1_13 hc_L_law_304 rfl) rfl
theorem dL_law_318 : decode cL_law 318 = .ok (.iconst 2, 1) := o_5 (u1_14 hc_L_law_304 rfl) rfl
theorem dL_law_319 : decode cL_law 319 = .ok (.iadd, 1) := o_96 (u1_15 hc_L_law_304 rfl) rfl
theorem hc_L_law_320 : ((bL cL_law).drop 320).take 18 = [46, 182, 0, 31, 87, 167, 4, 112, 43, 42, 29, 4, 96, 46, 182, 0, 32, 87] := by decide +kernel
theorem dL_law_320 : decode cL_law 320 = .ok (.iaload, 1) := o_46 (u1_0 hc_L_law_320 rfl) rfl
theorem dL_law_321 : decode cL_law 321 = .ok (.invokevirtual 31, 3) := o_182 (u1_1 hc_L_law_320 rfl) (u2_d (u1_2 hc_L_law_320 rfl) (u1_3 hc_L_law_320 rfl) rfl) rfl
theorem dL_law_324 : decode cL_law 324 = .ok (.pop, 1) := o_87 (u1_4 hc_L_law_320 rfl) rfl
theorem dL_law_325 : decode cL_law 325 = .ok (.goto 1136, 3) := o_167 (u1_5 hc_L_law_320 rfl) (s2_d (u2_d (u1_6 hc_L_law_320 rfl) (u1_7 hc_L_law_320 rfl) rfl) rfl) rfl
theorem dL_law_328 : decode cL_law 328 = .ok (.aload_n 1, 1) := o_43 (u1_8 hc_L_law_320 rfl) rfl
theorem dL_law_329 : decode cL_law 329 = .ok (.aload_n 0, 1) := o_42 (u1_9 hc_L_law_320 rfl) rfl
theorem dL_law_330 : decode cL_law 330 = .ok (.iload_n 3, 1) := o_29 (u1_10 hc_L_law_320 rfl) rfl
theorem dL_law_331 : decode cL_law 331 = .ok (.iconst 1, 1) := o_4 (u1_11 hc_L_law_320 rfl) rfl
theorem dL_law_332 : decode cL_law 332 = .ok (.iadd, 1) := o_96 (u1_12 hc_L_law_320 rfl) rfl
theorem dL_law_333 : decode cL_law 333 = .ok (.iaload, 1) := o_46 (u1_13 hc_L_law_320 rfl) rfl
theorem dL_law_334 : decode cL_law 334 = .ok (.invokevirtual 32, 3) := o_182 (u1_14 hc_L_law_320 rfl) (u2_d (u1_15 hc_L_law_320 rfl) (u1_16 hc_L_law_320 rfl) rfl) rfl
theorem hc_L_law_336 : ((bL cL_law).drop 336).take 18 = [32, 87, 44, 42, 29, 4, 96, 46, 182, 0, 35, 87, 167, 4, 89, 43, 182, 0] := by decide +kernel
theorem dL_law_337 : decode cL_law 337 = .ok (.pop, 1) := o_87 (u1_1 hc_L_law_336 rfl) rfl
theorem dL_law_338 : decode cL_law 338 = .ok (.aload_n 2, 1) := o_44 (u1_2 hc_L_law_336 rfl) rfl
theorem dL_law_339 : decode cL_law 339 = .ok (.aload_n 0, 1) := o_42 (u1_3 hc_L_law_336 rfl) rfl
theorem dL_law_340 : decode cL_law 340 = .ok (.iload_n 3, 1) := o_29 (u1_4 hc_L_law_336 rfl) rfl
theorem dL_law_341 : decode cL_law 341 = .ok (.iconst 1, 1) := o_4 (u1_5 hc_L_law_336 rfl) rfl
theorem dL_law_342 : decode cL_law 342 = .ok (.iadd, 1) := o_96 (u1_6 hc_L_law_336 rfl) rfl
theorem dL_law_343 : decode cL_law 343 = .ok (.iaload, 1) := o_46 (u1_7 hc_L_law_336 rfl) rfl
theorem dL_law_344 : decode cL_law 344 = .ok (.invokevirtual 35, 3) := o_182 (u1_8 hc_L_law_336 rfl) (u2_d (u1_9 hc_L_law_336 rfl) (u1_10 hc_L_law_336 rfl) rfl) rfl
theorem dL_law_347 : decode cL_law 347 = .ok (.pop, 1) := o_87 (u1_11 hc_L_law_336 rfl) rfl
theorem dL_law_348 : decode cL_law 348 = .ok (.goto 1113, 3) := o_167 (u1_12 hc_L_law_336 rfl) (s2_d (u2_d (u1_13 hc_L_law_336 rfl) (u1_14 hc_L_law_336 rfl) rfl) rfl) rfl
theorem dL_law_351 : decode cL_law 351 = .ok (.aload_n 1, 1) := o_43 (u1_15 hc_L_law_336 rfl) rfl
theorem hc_L_law_352 : ((bL cL_law).drop 352).take 18 = [182, 0, 36, 88, 44, 182, 0, 40, 88, 167, 4, 76, 43, 42, 29, 4, 96, 46] := by decide +kernel
theorem dL_law_352 : decode cL_law 352 = .ok (.invokevirtual 36, 3) := o_182 (u1_0 hc_L_law_352 rfl) (u2_d (u1_1 hc_L_law_352 rfl) (u1_2 hc_L_law_352 rfl) rfl) rfl
theorem dL_law_355 : decode cL_law 355 = .ok (.pop2, 1) := o_88 (u1_3 hc_L_law_352 rfl) rfl
theorem dL_law_356 : decode cL_law 356 = .ok (.aload_n 2, 1) := o_44 (u1_4 hc_L_law_352 rfl) rfl
theorem dL_law_357 : decode cL_law 357 = .ok (.invokevirtual 40, 3) := o_182 (u1_5 hc_L_law_352 rfl) (u2_d (u1_6 hc_L_law_352 rfl) (u1_7 hc_L_law_352 rfl) rfl) rfl
theorem dL_law_360 : decode cL_law 360 = .ok (.pop2, 1) := o_88 (u1_8 hc_L_law_352 rfl) rfl
theorem dL_law_361 : decode cL_law 361 = .ok (.goto 1100, 3) := o_167 (u1_9 hc_L_law_352 rfl) (s2_d (u2_d (u1_10 hc_L_law_352 rfl) (u1_11 hc_L_law_352 rfl) rfl) rfl) rfl
theorem dL_law_364 : decode cL_law 364 = .ok (.aload_n 1, 1) := o_43 (u1_12 hc_L_law_352 rfl) rfl
theorem dL_law_365 : decode cL_law 365 = .ok (.aload_n 0, 1) := o_42 (u1_13 hc_L_law_352 rfl) rfl
theorem dL_law_366 : decode cL_law 366 = .ok (.iload_n 3, 1) := o_29 (u1_14 hc_L_law_352 rfl) rfl
theorem dL_law_367 : decode cL_law 367 = .ok (.iconst 1, 1) := o_4 (u1_15 hc_L_law_352 rfl) rfl
theorem hc_L_law_368 : ((bL cL_law).drop 368).take 18 = [96, 46, 182, 0, 41, 87, 44, 42, 29, 4, 96, 46, 182, 0, 44, 87, 167, 4] := by decide +kernel
theorem dL_law_368 : decode cL_law 368 = .ok (.iadd, 1) := o_96 (u1_0 hc_L_law_368 rfl) rfl
theorem dL_law_369 : decode cL_law 369 = .ok (.iaload, 1) := o_46 (u1_1 hc_L_law_368 rfl) rfl
theorem dL_law_370 : decode cL_law 370 = .ok (.invokevirtual 41, 3) := o_182 (u1_2 hc_L_law_368 rfl) (u2_d (u1_3 hc_L_law_368 rfl) (u1_4 hc_L_law_368 rfl) rfl) rfl
theorem dL_law_373 : decode cL_law 373 = .ok (.pop, 1) := o_87 (u1_5 hc_L_law_368 rfl) rfl
theorem dL_law_374 : decode cL_law 374 = .ok (.aload_n 2, 1) := o_44 (u1_6 hc_L_law_368 rfl) rfl
theorem dL_law_375 : decode cL_law 375 = .ok (.aload_n 0, 1) := o_42 (u1_7 hc_L_law_368 rfl) rfl
theorem dL_law_376 : decode cL_law 376 = .ok (.iload_n 3, 1) := o_29 (u1_8 hc_L_law_368 rfl) rfl
theorem dL_law_377 : decode cL_law 377 = .ok (.iconst 1, 1) := o_4 (u1_9 hc_L_law_368 rfl) rfl
theorem dL_law_378 : decode cL_law 378 = .ok (.iadd, 1) := o_96 (u1_10 hc_L_law_368 rfl) rfl
theorem dL_law_379 : decode cL_law 379 = .ok (.iaload, 1) := o_46 (u1_11 hc_L_law_368 rfl) rfl
theorem dL_law_380 : decode cL_law 380 = .ok (.invokevirtual 44, 3) := o_182 (u1_12 hc_L_law_368 rfl) (u2_d (u1_13 hc_L_law_368 rfl) (u1_14 hc_L_law_368 rfl) rfl) rfl
theorem dL_law_383 : decode cL_law 383 = .ok (.pop, 1) := o_87 (u1_15 hc_L_law_368 rfl) rfl
theorem hc_L_law_384 : ((bL cL_law).drop 384).take 18 = [167, 4, 53, 43, 42, 29, 4, 96, 46, 42, 29, 5, 96, 46, 182, 0, 45, 87] := by decide +kernel
theorem dL_law_384 : decode cL_law 384 = .ok (.goto 1077, 3) := o_167 (u1_0 hc_L_law_384 rfl) (s2_d (u2_d (u1_1 hc_L_law_384 rfl) (u1_2 hc_L_law_384 rfl) rfl) rfl) rfl
theorem dL_law_387 : decode cL_law 387 = .ok (.aload_n 1, 1) := o_43 (u1_3 hc_L_law_384 rfl) rfl
theorem dL_law_388 : decode cL_law 388 = .ok (.aload_n 0, 1) := o_42 (u1_4 hc_L_law_384 rfl) rfl
theorem dL_law_389 : decode cL_law 389 = .ok (.iload_n 3, 1) := o_29 (u1_5 hc_L_law_384 rfl) rfl
theorem dL_law_390 : decode cL_law 390 = .ok (.iconst 1, 1) := o_4 (u1_6 hc_L_law_384 rfl) rfl
theorem dL_law_391 : decode cL_law 391 = .ok (.iadd, 1) := o_96 (u1_7 hc_L_law_384 rfl) rfl
theorem dL_law_392 : decode cL_law 392 = .ok (.iaload, 1) := o_46 (u1_8 hc_L_law_384 rfl) rfl
theorem dL_law_393 : decode cL_law 393 = .ok (.aload_n 0, 1) := o_42 (u1_9 hc_L_law_384 rfl) rfl
theorem dL_law_394 : decode cL_law 394 = .ok (.iload_n 3, 1) := o_29 (u1_10 hc_L_law_384 rfl) rfl
theorem dL_law_395 : decode cL_law 395 = .ok (.iconst 2, 1) := o_5 (u1_11 hc_L_law_384 rfl) rfl
theorem dL_law_396 : decode cL_law 396 = .ok (.iadd, 1) := o_96 (u1_12 hc_L_law_384 rfl) rfl
theorem dL_law_397 : decode cL_law 397 = .ok (.iaload, 1) := o_46 (u1_13 hc_L_law_384 rfl) rfl
theorem dL_law_398 : decode cL_law 398 = .ok (.invokevirtual 45, 3) := o_182 (u1_14 hc_L_law_384 rfl) (u2_d (u1_15 hc_L_law_384 rfl) (u1_16 hc_L_law_384 rfl) rfl) rfl
theorem hc_L_law_400 : ((bL cL_law).drop 400).take 18 = [45, 87, 44, 42, 29, 4, 96, 46, 42, 29, 5, 96, 46, 182, 0, 48, 87, 167] := by decide +kernel
theorem dL_law_401 : decode cL_law 401 = .ok (.pop, 1) := o_87 (u1_1 hc_L_law_400 rfl) rfl
theorem dL_law_402 : decode cL_law 402 = .ok (.aload_n 2, 1) := o_44 (u1_2 hc_L_law_400 rfl) rfl
theorem dL_law_403 : decode cL_law 403 = .ok (.aload_n 0, 1) := o_42 (u1_3 hc_L_law_400 rfl) rfl
theorem dL_law_404 : decode cL_law 404 = .ok (.iload_n 3, 1) := o_29 (u1_4 hc_L_law_400 rfl) rfl
theorem dL_law_405 : decode cL_law 405 = .ok (.iconst 1, 1) := o_4 (u1_5 hc_L_law_400 rfl) rfl
theorem dL_law_406 : decode cL_law 406 = .ok (.iadd, 1) := o_96 (u1_6 hc_L_law_400 rfl) rfl
theorem dL_law_407 : decode cL_law 407 = .ok (.iaload, 1) := o_46 (u1_7 hc_L_law_400 rfl) rfl
theorem dL_law_408 : decode cL_law 408 = .ok (.aload_n 0, 1) := o_42 (u1_8 hc_L_law_400 rfl) rfl
theorem dL_law_409 : decode cL_law 409 = .ok (.iload_n 3, 1) := o_29 (u1_9 hc_L_law_400 rfl) rfl
theorem dL_law_410 : decode cL_law 410 = .ok (.iconst 2, 1) := o_5 (u1_10 hc_L_law_400 rfl) rfl
theorem dL_law_411 : decode cL_law 411 = .ok (.iadd, 1) := o_96 (u1_11 hc_L_law_400 rfl) rfl
theorem dL_law_412 : decode cL_law 412 = .ok (.iaload, 1) := o_46 (u1_12 hc_L_law_400 rfl) rfl
theorem dL_law_413 : decode cL_law 413 = .ok (.invokevirtual 48, 3) := o_182 (u1_13 hc_L_law_400 rfl) (u2_d (u1_14 hc_L_law_400 rfl) (u1_15 hc_L_law_400 rfl) rfl) rfl
theorem hc_L_law_416 : ((bL cL_law).drop 416).take 18 = [87, 167, 4, 20, 43, 42, 29, 4, 96, 46, 42, 29, 5, 96, 46, 42, 29, 6] := by decide +kernel
theorem dL_law_416 : decode cL_law 416 = .ok (.pop, 1) := o_87 (u1_0 hc_L_law_416 rfl) rfl
theorem dL_law_417 : decode cL_law 417 = .ok (.goto 1044, 3) := o_167 (u1_1 hc_L_law_416 rfl) (s2_d (u2_d (u1_2 hc_L_law_416 rfl) (u1_3 hc_L_law_416 rfl) rfl) rfl) rfl
theorem dL_law_420 : decode cL_law 420 = .ok (.aload_n 1, 1) := o_43 (u1_4 hc_L_law_416 rfl) rfl
theorem dL_law_421 : decode cL_law 421 = .ok (.aload_n 0, 1) := o_42 (u1_5 hc_L_law_416 rfl) rfl
theorem dL_law_422 : decode cL_law 422 = .ok (.iload_n 3, 1) := o_29 (u1_6 hc_L_law_416 rfl) rfl
theorem dL_law_423 : decode cL_law 423 = .ok (.iconst 1, 1) := o_4 (u1_7 hc_L_law_416 rfl) rfl
theorem dL_law_424 : decode cL_law 424 = .ok (.iadd, 1) := o_96 (u1_8 hc_L_law_416 rfl) rfl
theorem dL_law_425 : decode cL_law 425 = .ok (.iaload, 1) := o_46 (u1_9 hc_L_law_416 rfl) rfl
theorem dL_law_426 : decode cL_law 426 = .ok (.aload_n 0, 1) := o_42 (u1_10 hc_L_law_416 rfl) rfl
theorem dL_law_427 : decode cL_law 427 = .ok (.iload_n 3, 1) := o_29 (u1_11 hc_L_law_416 rfl) rfl
theorem dL_law_428 : decode cL_law 428 = .ok (.iconst 2, 1) := o_5 (u1_12 hc_L_law_416 rfl) rfl
theorem dL_law_429 : decode cL_law 429 = .ok (.iadd, 1) := o_96 (u1_13 hc_L_law_416 rfl) rfl
theorem dL_law_430 : decode cL_law 430 = .ok (.iaload, 1) := o_46 (u1_14 hc_L_law_416 rfl) rfl
theorem dL_law_431 : decode cL_law 431 = .ok (.aload_n 0, 1) := o_42 (u1_15 hc_L_law_416 rfl) rfl
theorem hc_L_law_432 : ((bL cL_law).drop 432).take 18 = [29, 6, 96, 46, 42, 29, 7, 96, 46, 182, 0, 49, 87, 44, 42, 29, 4, 96] := by decide +kernel
theorem dL_law_432 : decode cL_law 432 = .ok (.iload_n 3, 1) := o_29 (u1_0 hc_L_law_432 rfl) rfl
theorem dL_law_433 : decode cL_law 433 = .ok (.iconst 3, 1) := o_6 (u1_1 hc_L_law_432 rfl) rfl
theorem dL_law_434 : decode cL_law 434 = .ok (.iadd, 1) := o_96 (u1_2 hc_L_law_432 rfl) rfl
theorem dL_law_435 : decode cL_law 435 = .ok (.iaload, 1) := o_46 (u1_3 hc_L_law_432 rfl) rfl
theorem dL_law_436 : decode cL_law 436 = .ok (.aload_n 0, 1) := o_42 (u1_4 hc_L_law_432 rfl) rfl
theorem dL_law_437 : decode cL_law 437 = .ok (.iload_n 3, 1) := o_29 (u1_5 hc_L_law_432 rfl) rfl
theorem dL_law_438 : decode cL_law 438 = .ok (.iconst 4, 1) := o_7 (u1_6 hc_L_law_432 rfl) rfl
theorem dL_law_439 : decode cL_law 439 = .ok (.iadd, 1) := o_96 (u1_7 hc_L_law_432 rfl) rfl
theorem dL_law_440 : decode cL_law 440 = .ok (.iaload, 1) := o_46 (u1_8 hc_L_law_432 rfl) rfl
theorem dL_law_441 : decode cL_law 441 = .ok (.invokevirtual 49, 3) := o_182 (u1_9 hc_L_law_432 rfl) (u2_d (u1_10 hc_L_law_432 rfl) (u1_11 hc_L_law_432 rfl) rfl) rfl
theorem dL_law_444 : decode cL_law 444 = .ok (.pop, 1) := o_87 (u1_12 hc_L_law_432 rfl) rfl
theorem dL_law_445 : decode cL_law 445 = .ok (.aload_n 2, 1) := o_44 (u1_13 hc_L_law_432 rfl) rfl
theorem dL_law_446 : decode cL_law 446 = .ok (.aload_n 0, 1) := o_42 (u1_14 hc_L_law_432 rfl) rfl
theorem dL_law_447 : decode cL_law 447 = .ok (.iload_n 3, 1) := o_29 (u1_15 hc_L_law_432 rfl) rfl
theorem hc_L_law_448 : ((bL cL_law).drop 448).take 18 = [4, 96, 46, 42, 29, 5, 96, 46, 42, 29, 6, 96, 46, 42, 29, 7, 96, 46] := by decide +kernel
theorem dL_law_448 : decode cL_law 448 = .ok (.iconst 1, 1) := o_4 (u1_0 hc_L_law_448 rfl) rfl
theorem dL_law_449 : decode cL_law 449 = .ok (.iadd, 1) := o_96 (u1_1 hc_L_law_448 rfl) rfl
theorem dL_law_450 : decode cL_law 450 = .ok (.iaload, 1) := o_46 (u1_2 hc_L_law_448 rfl) rfl
theorem dL_law_451 : decode cL_law 451 = .ok (.aload_n 0, 1) := o_42 (u1_3 hc_L_law_448 rfl) rfl
theorem dL_law_452 : decode cL_law 452 = .ok (.iload_n 3, 1) := o_29 (u1_4 hc_L_law_448 rfl) rfl
theorem dL_law_453 : decode cL_law 453 = .ok (.iconst 2, 1) := o_5 (u1_5 hc_L_law_448 rfl) rfl
theorem dL_law_454 : decode cL_law 454 = .ok (.iadd, 1) := o_96 (u1_6 hc_L_law_448 rfl) rfl
theorem dL_law_455 : decode cL_law 455 = .ok (.iaload, 1) := o_46 (u1_7 hc_L_law_448 rfl) rfl
theorem dL_law_456 : decode cL_law 456 = .ok (.aload_n 0, 1) := o_42 (u1_8 hc_L_law_448 rfl) rfl
theorem dL_law_457 : decode cL_law 457 = .ok (.iload_n 3, 1) := o_29 (u1_9 hc_L_law_448 rfl) rfl
theorem dL_law_458 : decode cL_law 458 = .ok (.iconst 3, 1) := o_6 (u1_10 hc_L_law_448 rfl) rfl
theorem dL_law_459 : decode cL_law 459 = .ok (.iadd, 1) := o_96 (u1_11 hc_L_law_448 rfl) rfl
theorem dL_law_460 : decode cL_law 460 = .ok (.iaload, 1) := o_46 (u1_12 hc_L_law_448 rfl) rfl
theorem dL_law_461 : decode cL_law 461 = .ok (.aload_n 0, 1) := o_42 (u1_13 hc_L_law_448 rfl) rfl
theorem dL_law_462 : decode cL_law 462 = .ok (.iload_n 3, 1) := o_29 (u1_14 hc_L_law_448 rfl) rfl
theorem dL_law_463 : decode cL_law 463 = .ok (.iconst 4, 1) := o_7 (u1_15 hc_L_law_448 rfl) rfl
theorem hc_L_law_464 : ((bL cL_law).drop 464).take 18 = [96, 46, 182, 0, 53, 87, 167, 3, 223, 43, 42, 29, 4, 96, 46, 182, 0, 54] := by decide +kernel
theorem dL_law_464 : decode cL_law 464 = .ok (.iadd, 1) := o_96 (u1_0 hc_L_law_464 rfl) rfl
theorem dL_law_465 : decode cL_law 465 = .ok (.iaload, 1) := o_46 (u1_1 hc_L_law_464 rfl) rfl
theorem dL_law_466 : decode cL_law 466 = .ok (.invokevirtual 53, 3) := o_182 (u1_2 hc_L_law_464 rfl) (u2_d (u1_3 hc_L_law_464 rfl) (u1_4 hc_L_law_464 rfl) rfl) rfl
theorem dL_law_469 : decode cL_law 469 = .ok (.pop, 1) := o_87 (u1_5 hc_L_law_464 rfl) rfl
theorem dL_law_470 : decode cL_law 470 = .ok (.goto 991, 3) := o_167 (u1_6 hc_L_law_464 rfl) (s2_d (u2_d (u1_7 hc_L_law_464 rfl) (u1_8 hc_L_law_464 rfl) rfl) rfl) rfl
theorem dL_law_473 : decode cL_law 473 = .ok (.aload_n 1, 1) := o_43 (u1_9 hc_L_law_464 rfl) rfl
theorem dL_law_474 : decode cL_law 474 = .ok (.aload_n 0, 1) := o_42 (u1_10 hc_L_law_464 rfl) rfl
theorem dL_law_475 : decode cL_law 475 = .ok (.iload_n 3, 1) := o_29 (u1_11 hc_L_law_464 rfl) rfl
theorem dL_law_476 : decode cL_law 476 = .ok (.iconst 1, 1) := o_4 (u1_12 hc_L_law_464 rfl) rfl
theorem dL_law_477 : decode cL_law 477 = .ok (.iadd, 1) := o_96 (u1_13 hc_L_law_464 rfl) rfl
theorem dL_law_478 : decode cL_law 478 = .ok (.iaload, 1) := o_46 (u1_14 hc_L_law_464 rfl) rfl
theorem dL_law_479 : decode cL_law 479 = .ok (.invokevirtual 54, 3) := o_182 (u1_15 hc_L_law_464 rfl) (u2_d (u1_16 hc_L_law_464 rfl) (u1_17 hc_L_law_464 rfl) rfl) rfl
theorem hc_L_law_480 : ((bL cL_law).drop 480).take 18 = [0, 54, 87, 44, 42, 29, 4, 96, 46, 182, 0, 57, 87, 167, 3, 200, 43, 42] := by decide +kernel
theorem dL_law_482 : decode cL_law 482 = .ok (.pop, 1) := o_87 (u1_2 hc_L_law_480 rfl) rfl
theorem dL_law_483 : decode cL_law 483 = .ok (.aload_n 2, 1) := o_44 (u1_3 hc_L_law_480 rfl) rfl
theorem dL_law_484 : decode cL_law 484 = .ok (.aload_n 0, 1) := o_42 (u1_4 hc_L_law_480 rfl) rfl
theorem dL_law_485 : decode cL_law 485 = .ok (.iload_n 3, 1) := o_29 (u1_5 hc_L_law_480 rfl) rfl
theorem dL_law_486 : decode cL_law 486 = .ok (.iconst 1, 1) := o_4 (u1_6 hc_L_law_480 rfl) rfl
theorem dL_law_487 : decode cL_law 487 = .ok (.iadd, 1) := o_96 (u1_7 hc_L_law_480 rfl) rfl
theorem dL_law_488 : decode cL_law 488 = .ok (.iaload, 1) := o_46 (u1_8 hc_L_law_480 rfl) rfl
theorem dL_law_489 : decode cL_law 489 = .ok (.invokevirtual 57, 3) := o_182 (u1_9 hc_L_law_480 rfl) (u2_d (u1_10 hc_L_law_480 rfl) (u1_11 hc_L_law_480 rfl) rfl) rfl
theorem dL_law_492 : decode cL_law 492 = .ok (.pop, 1) := o_87 (u1_12 hc_L_law_480 rfl) rfl
theorem dL_law_493 : decode cL_law 493 = .ok (.goto 968, 3) := o_167 (u1_13 hc_L_law_480 rfl) (s2_d (u2_d (u1_14 hc_L_law_480 rfl) (u1_15 hc_L_law_480 rfl) rfl) rfl) rfl
theorem hc_L_law_496 : ((bL cL_law).drop 496).take 18 = [43, 42, 29, 4, 96, 46, 182, 0, 58, 87, 44, 42, 29, 4, 96, 46, 182, 0] := by decide +kernel
theorem dL_law_496 : decode cL_law 496 = .ok (.aload_n 1, 1) := o_43 (u1_0 hc_L_law_496 rfl) rfl
theorem dL_law_497 : decode cL_law 497 = .ok (.aload_n 0, 1) := o_42 (u1_1 hc_L_law_496 rfl) rfl
theorem dL_law_498 : decode cL_law 498 = .ok (.iload_n 3, 1) := o_29 (u1_2 hc_L_law_496 rfl) rfl
theorem dL_law_499 : decode cL_law 499 = .ok (.iconst 1, 1) := o_4 (u1_3 hc_L_law_496 rfl) rfl
theorem dL_law_500 : decode cL_law 500 = .ok (.iadd, 1) := o_96 (u1_4 hc_L_law_496 rfl) rfl
theorem dL_law_501 : decode cL_law 501 = .ok (.iaload, 1) := o_46 (u1_5 hc_L_law_496 rfl) rfl
theorem dL_law_502 : decode cL_law 502 = .ok (.invokevirtual 58, 3) := o_182 (u1_6 hc_L_law_496 rfl) (u2_d (u1_7 hc_L_law_496 rfl) (u1_8 hc_L_law_496 rfl) rfl) rfl
theorem dL_law_505 : decode cL_law 505 = .ok (.pop, 1) := o_87 (u1_9 hc_L_law_496 rfl) rfl
theorem dL_law_506 : decode cL_law 506 = .ok (.aload_n 2, 1) := o_44 (u1_10 hc_L_law_496 rfl) rfl
theorem dL_law_507 : decode cL_law 507 = .ok (.aload_n 0, 1) := o_42 (u1_11 hc_L_law_496 rfl) rfl
theorem dL_law_508 : decode cL_law 508 = .ok (.iload_n 3, 1) := o_29 (u1_12 hc_L_law_496 rfl) rfl
theorem dL_law_509 : decode cL_law 509 = .ok (.iconst 1, 1) := o_4 (u1_13 hc_L_law_496 rfl) rfl
theorem dL_law_510 : decode cL_law 510 = .ok (.iadd, 1) := o_96 (u1_14 hc_L_law_496 rfl) rfl
theorem dL_law_511 : decode cL_law 511 = .ok (.iaload, 1) := o_46 (u1_15 hc_L_law_496 rfl) rfl
theorem hc_L_law_512 : ((bL cL_law).drop 512).take 18 = [182, 0, 61, 87, 167, 3, 177, 43, 42, 29, 4, 96, 46, 42, 29, 5, 96, 46] := by decide +kernel
theorem dL_law_512 : decode cL_law 512 = .ok (.invokevirtual 61, 3) := o_182 (u1_0 hc_L_law_512 rfl) (u2_d (u1_1 hc_L_law_512 rfl) (u1_2 hc_L_law_512 rfl) rfl) rfl
theorem dL_law_515 : decode cL_law 515 = .ok (.pop, 1) := o_87 (u1_3 hc_L_law_512 rfl) rfl
theorem dL_law_516 : decode cL_law 516 = .ok (.goto 945, 3) := o_167 (u1_4 hc_L_law_512 rfl) (s2_d (u2_d (u1_5 hc_L_law_512 rfl) (u1_6 hc_L_law_512 rfl) rfl) rfl) rfl
theorem dL_law_519 : decode cL_law 519 = .ok (.aload_n 1, 1) := o_43 (u1_7 hc_L_law_512 rfl) rfl
theorem dL_law_520 : decode cL_law 520 = .ok (.aload_n 0, 1) := o_42 (u1_8 hc_L_law_512 rfl) rfl
theorem dL_law_521 : decode cL_law 521 = .ok (.iload_n 3, 1) := o_29 (u1_9 hc_L_law_512 rfl) rfl
theorem dL_law_522 : decode cL_law 522 = .ok (.iconst 1, 1) := o_4 (u1_10 hc_L_law_512 rfl) rfl
theorem dL_law_523 : decode cL_law 523 = .ok (.iadd, 1) := o_96 (u1_11 hc_L_law_512 rfl) rfl
theorem dL_law_524 : decode cL_law 524 = .ok (.iaload, 1) := o_46 (u1_12 hc_L_law_512 rfl) rfl
theorem dL_law_525 : decode cL_law 525 = .ok (.aload_n 0, 1) := o_42 (u1_13 hc_L_law_512 rfl) rfl
theorem dL_law_526 : decode cL_law 526 = .ok (.iload_n 3, 1) := o_29 (u1_14 hc_L_law_512 rfl) rfl
theorem dL_law_527 : decode cL_law 527 = .ok (.iconst 2, 1) := o_5 (u1_15 hc_L_law_512 rfl) rfl
theorem hc_L_law_528 : ((bL cL_law).drop 528).take 18 = [96, 46, 182, 0, 62, 87, 44, 42, 29, 4, 96, 46, 42, 29, 5, 96, 46, 182] := by decide +kernel
theorem dL_law_528 : decode cL_law 528 = .ok (.iadd, 1) := o_96 (u1_0 hc_L_law_528 rfl) rfl
theorem dL_law_529 : decode cL_law 529 = .ok (.iaload, 1) := o_46 (u1_1 hc_L_law_528 rfl) rfl
theorem dL_law_530 : decode cL_law 530 = .ok (.invokevirtual 62, 3) := o_182 (u1_2 hc_L_law_528 rfl) (u2_d (u1_3 hc_L_law_528 rfl) (u1_4 hc_L_law_528 rfl) rfl) rfl
theorem dL_law_533 : decode cL_law 533 = .ok (.pop, 1) := o_87 (u1_5 hc_L_law_528 rfl) rfl
theorem dL_law_534 : decode cL_law 534 = .ok (.aload_n 2, 1) := o_44 (u1_6 hc_L_law_528 rfl) rfl
theorem dL_law_535 : decode cL_law 535 = .ok (.aload_n 0, 1) := o_42 (u1_7 hc_L_law_528 rfl) rfl
theorem dL_law_536 : decode cL_law 536 = .ok (.iload_n 3, 1) := o_29 (u1_8 hc_L_law_528 rfl) rfl
theorem dL_law_537 : decode cL_law 537 = .ok (.iconst 1, 1) := o_4 (u1_9 hc_L_law_528 rfl) rfl
theorem dL_law_538 : decode cL_law 538 = .ok (.iadd, 1) := o_96 (u1_10 hc_L_law_528 rfl) rfl
theorem dL_law_539 : decode cL_law 539 = .ok (.iaload, 1) := o_46 (u1_11 hc_L_law_528 rfl) rfl
theorem dL_law_540 : decode cL_law 540 = .ok (.aload_n 0, 1) := o_42 (u1_12 hc_L_law_528 rfl) rfl
theorem dL_law_541 : decode cL_law 541 = .ok (.iload_n 3, 1) := o_29 (u1_13 hc_L_law_528 rfl) rfl
theorem dL_law_542 : decode cL_law 542 = .ok (.iconst 2, 1) := o_5 (u1_14 hc_L_law_528 rfl) rfl
theorem dL_law_543 : decode cL_law 543 = .ok (.iadd, 1) := o_96 (u1_15 hc_L_law_528 rfl) rfl
theorem hc_L_law_544 : ((bL cL_law).drop 544).take 18 = [46, 182, 0, 65, 87, 167, 3, 144, 43, 42, 29, 4, 96, 46, 42, 29, 5, 96] := by decide +kernel
theorem dL_law_544 : decode cL_law 544 = .ok (.iaload, 1) := o_46 (u1_0 hc_L_law_544 rfl) rfl
theorem dL_law_545 : decode cL_law 545 = .ok (.invokevirtual 65, 3) := o_182 (u1_1 hc_L_law_544 rfl) (u2_d (u1_2 hc_L_law_544 rfl) (u1_3 hc_L_law_544 rfl) rfl) rfl
theorem dL_law_548 : decode cL_law 548 = .ok (.pop, 1) := o_87 (u1_4 hc_L_law_544 rfl) rfl
theorem dL_law_549 : decode cL_law 549 = .ok (.goto 912, 3) := o_167 (u1_5 hc_L_law_544 rfl) (s2_d (u2_d (u1_6 hc_L_law_544 rfl) (u1_7 hc_L_law_544 rfl) rfl) rfl) rfl
theorem dL_law_552 : decode cL_law 552 = .ok (.aload_n 1, 1) := o_43 (u1_8 hc_L_law_544 rfl) rfl
theorem dL_law_553 : decode cL_law 553 = .ok (.aload_n 0, 1) := o_42 (u1_9 hc_L_law_544 rfl) rfl
theorem dL_law_554 : decode cL_law 554 = .ok (.iload_n 3, 1) := o_29 (u1_10 hc_L_law_544 rfl) rfl
theorem dL_law_555 : decode cL_law 555 = .ok (.iconst 1, 1) := o_4 (u1_11 hc_L_law_544 rfl) rfl
theorem dL_law_556 : decode cL_law 556 = .ok (.iadd, 1) := o_96 (u1_12 hc_L_law_544 rfl) rfl
theorem dL_law_557 : decode cL_law 557 = .ok (.iaload, 1) := o_46 (u1_13 hc_L_law_544 rfl) rfl
theorem dL_law_558 : decode cL_law 558 = .ok (.aload_n 0, 1) := o_42 (u1_14 hc_L_law_544 rfl) rfl
theorem dL_law_559 : decode cL_law 559 = .ok (.iload_n 3, 1) := o_29 (u1_15 hc_L_law_544 rfl) rfl
theorem hc_L_law_560 : ((bL cL_law).drop 560).take 18 = [5, 96, 46, 182, 0, 66, 87, 44, 42, 29, 4, 96, 46, 42, 29, 5, 96, 46] := by decide +kernel
theorem dL_law_560 : decode cL_law 560 = .ok (.iconst 2, 1) := o_5 (u1_0 hc_L_law_560 rfl) rfl
theorem dL_law_561 : decode cL_law 561 = .ok (.iadd, 1) := o_96 (u1_1 hc_L_law_560 rfl) rfl
theorem dL_law_562 : decode cL_law 562 = .ok (.iaload, 1) := o_46 (u1_2 hc_L_law_560 rfl) rfl
theorem dL_law_563 : decode cL_law 563 = .ok (.invokevirtual 66, 3) := o_182 (u1_3 hc_L_law_560 rfl) (u2_d (u1_4 hc_L_law_560 rfl) (u1_5 hc_L_law_560 rfl) rfl) rfl
theorem dL_law_566 : decode cL_law 566 = .ok (.pop, 1) := o_87 (u1_6 hc_L_law_560 rfl) rfl
theorem dL_law_567 : decode cL_law 567 = .ok (.aload_n 2, 1) := o_44 (u1_7 hc_L_law_560 rfl) rfl
theorem dL_law_568 : decode cL_law 568 = .ok (.aload_n 0, 1) := o_42 (u1_8 hc_L_law_560 rfl) rfl
theorem dL_law_569 : decode cL_law 569 = .ok (.iload_n 3, 1) := o_29 (u1_9 hc_L_law_560 rfl) rfl
theorem dL_law_570 : decode cL_law 570 = .ok (.iconst 1, 1) := o_4 (u1_10 hc_L_law_560 rfl) rfl
theorem dL_law_571 : decode cL_law 571 = .ok (.iadd, 1) := o_96 (u1_11 hc_L_law_560 rfl) rfl
theorem dL_law_572 : decode cL_law 572 = .ok (.iaload, 1) := o_46 (u1_12 hc_L_law_560 rfl) rfl
theorem dL_law_573 : decode cL_law 573 = .ok (.aload_n 0, 1) := o_42 (u1_13 hc_L_law_560 rfl) rfl
theorem dL_law_574 : decode cL_law 574 = .ok (.iload_n 3, 1) := o_29 (u1_14 hc_L_law_560 rfl) rfl
theorem dL_law_575 : decode cL_law 575 = .ok (.iconst 2, 1) := o_5 (u1_15 hc_L_law_560 rfl) rfl
theorem hc_L_law_576 : ((bL cL_law).drop 576).take 18 = [96, 46, 182, 0, 69, 87, 167, 3, 111, 43, 42, 29, 4, 96, 46, 42, 29, 5] := by decide +kernel
theorem dL_law_576 : decode cL_law 576 = .ok (.iadd, 1) := o_96 (u1_0 hc_L_law_576 rfl) rfl
theorem dL_law_577 : decode cL_law 577 = .ok (.iaload, 1) := o_46 (u1_1 hc_L_law_576 rfl) rfl
theorem dL_law_578 : decode cL_law 578 = .ok (.invokevirtual 69, 3) := o_182 (u1_2 hc_L_law_576 rfl) (u2_d (u1_3 hc_L_law_576 rfl) (u1_4 hc_L_law_576 rfl) rfl) rfl
theorem dL_law_581 : decode cL_law 581 = .ok (.pop, 1) := o_87 (u1_5 hc_L_law_576 rfl) rfl
theorem dL_law_582 : decode cL_law 582 = .ok (.goto 879, 3) := o_167 (u1_6 hc_L_law_576 rfl) (s2_d (u2_d (u1_7 hc_L_law_576 rfl) (u1_8 hc_L_law_576 rfl) rfl) rfl) rfl
theorem dL_law_585 : decode cL_law 585 = .ok (.aload_n 1, 1) := o_43 (u1_9 hc_L_law_576 rfl) rfl
theorem dL_law_586 : decode cL_law 586 = .ok (.aload_n 0, 1) := o_42 (u1_10 hc_L_law_576 rfl) rfl
theorem dL_law_587 : decode cL_law 587 = .ok (.iload_n 3, 1) := o_29 (u1_11 hc_L_law_576 rfl) rfl
theorem dL_law_588 : decode cL_law 588 = .ok (.iconst 1, 1) := o_4 (u1_12 hc_L_law_576 rfl) rfl
theorem dL_law_589 : decode cL_law 589 = .ok (.iadd, 1) := o_96 (u1_13 hc_L_law_576 rfl) rfl
theorem dL_law_590 : decode cL_law 590 = .ok (.iaload, 1) := o_46 (u1_14 hc_L_law_576 rfl) rfl
theorem dL_law_591 : decode cL_law 591 = .ok (.aload_n 0, 1) := o_42 (u1_15 hc_L_law_576 rfl) rfl
theorem hc_L_law_592 : ((bL cL_law).drop 592).take 18 = [29, 5, 96, 46, 42, 29, 6, 96, 46, 182, 0, 70, 87, 44, 42, 29, 4, 96] := by decide +kernel
theorem dL_law_592 : decode cL_law 592 = .ok (.iload_n 3, 1) := o_29 (u1_0 hc_L_law_592 rfl) rfl
theorem dL_law_593 : decode cL_law 593 = .ok (.iconst 2, 1) := o_5 (u1_1 hc_L_law_592 rfl) rfl
theorem dL_law_594 : decode cL_law 594 = .ok (.iadd, 1) := o_96 (u1_2 hc_L_law_592 rfl) rfl
theorem dL_law_595 : decode cL_law 595 = .ok (.iaload, 1) := o_46 (u1_3 hc_L_law_592 rfl) rfl
theorem dL_law_596 : decode cL_law 596 = .ok (.aload_n 0, 1) := o_42 (u1_4 hc_L_law_592 rfl) rfl
theorem dL_law_597 : decode cL_law 597 = .ok (.iload_n 3, 1) := o_29 (u1_5 hc_L_law_592 rfl) rfl
theorem dL_law_598 : decode cL_law 598 = .ok (.iconst 3, 1) := o_6 (u1_6 hc_L_law_592 rfl) rfl
theorem dL_law_599 : decode cL_law 599 = .ok (.iadd, 1) := o_96 (u1_7 hc_L_law_592 rfl) rfl
theorem dL_law_600 : decode cL_law 600 = .ok (.iaload, 1) := o_46 (u1_8 hc_L_law_592 rfl) rfl
theorem dL_law_601 : decode cL_law 601 = .ok (.invokevirtual 70, 3) := o_182 (u1_9 hc_L_law_592 rfl) (u2_d (u1_10 hc_L_law_592 rfl) (u1_11 hc_L_law_592 rfl) rfl) rfl
theorem dL_law_604 : decode cL_law 604 = .ok (.pop, 1) := o_87 (u1_12 hc_L_law_592 rfl) rfl
theorem dL_law_605 : decode cL_law 605 = .ok (.aload_n 2, 1) := o_44 (u1_13 hc_L_law_592 rfl) rfl
theorem dL_law_606 : decode cL_law 606 = .ok (.aload_n 0, 1) := o_42 (u1_14 hc_L_law_592 rfl) rfl
theorem dL_law_607 : decode cL_law 607 = .ok (.iload_n 3, 1) := o_29 (u1_15 hc_L_law_592 rfl) rfl
theorem hc_L_law_608 : ((bL cL_law).drop 608).take 18 = [4, 96, 46, 42, 29, 5, 96, 46, 42, 29, 6, 96, 46, 182, 0, 73, 87, 167] := by decide +kernel
theorem dL_law_608 : decode cL_law 608 = .ok (.iconst 1, 1) := o_4 (u1_0 hc_L_law_608 rfl) rfl
theorem dL_law_609 : decode cL_law 609 = .ok (.iadd, 1) := o_96 (u1_1 hc_L_law_608 rfl) rfl
theorem dL_law_610 : decode cL_law 610 = .ok (.iaload, 1) := o_46 (u1_2 hc_L_law_608 rfl) rfl
theorem dL_law_611 : decode cL_law 611 = .ok (.aload_n 0, 1) := o_42 (u1_3 hc_L_law_608 rfl) rfl
theorem dL_law_612 : decode cL_law 612 = .ok (.iload_n 3, 1) := o_29 (u1_4 hc_L_law_608 rfl) rfl
theorem dL_law_613 : decode cL_law 613 = .ok (.iconst 2, 1) := o_5 (u1_5 hc_L_law_608 rfl) rfl
theorem dL_law_614 : decode cL_law 614 = .ok (.iadd, 1) := o_96 (u1_6 hc_L_law_608 rfl) rfl
theorem dL_law_615 : decode cL_law 615 = .ok (.iaload, 1) := o_46 (u1_7 hc_L_law_608 rfl) rfl
theorem dL_law_616 : decode cL_law 616 = .ok (.aload_n 0, 1) := o_42 (u1_8 hc_L_law_608 rfl) rfl
theorem dL_law_617 : decode cL_law 617 = .ok (.iload_n 3, 1) := o_29 (u1_9 hc_L_law_608 rfl) rfl
theorem dL_law_618 : decode cL_law 618 = .ok (.iconst 3, 1) := o_6 (u1_10 hc_L_law_608 rfl) rfl
theorem dL_law_619 : decode cL_law 619 = .ok (.iadd, 1) := o_96 (u1_11 hc_L_law_608 rfl) rfl
theorem dL_law_620 : decode cL_law 620 = .ok (.iaload, 1) := o_46 (u1_12 hc_L_law_608 rfl) rfl
theorem dL_law_621 : decode cL_law 621 = .ok (.invokevirtual 73, 3) := o_182 (u1_13 hc_L_law_608 rfl) (u2_d (u1_14 hc_L_law_608 rfl) (u1_15 hc_L_law_608 rfl) rfl) rfl
theorem hc_L_law_624 : ((bL cL_law).drop 624).take 18 = [87, 167, 3, 68, 43, 42, 29, 4, 96, 46, 42, 29, 5, 96, 46, 182, 0, 74] := by decide +kernel
theorem dL_law_624 : decode cL_law 624 = .ok (.pop, 1) := o_87 (u1_0 hc_L_law_624 rfl) rfl
theorem dL_law_625 : decode cL_law 625 = .ok (.goto 836, 3) := o_167 (u1_1 hc_L_law_624 rfl) (s2_d (u2_d (u1_2 hc_L_law_624 rfl) (u1_3 hc_L_law_624 rfl) rfl) rfl) rfl
theorem dL_law_628 : decode cL_law 628 = .ok (.aload_n 1, 1) := o_43 (u1_4 hc_L_law_624 rfl) rfl
theorem dL_law_629 : decode cL_law 629 = .ok (.aload_n 0, 1) := o_42 (u1_5 hc_L_law_624 rfl) rfl
theorem dL_law_630 : decode cL_law 630 = .ok (.iload_n 3, 1) := o_29 (u1_6 hc_L_law_624 rfl) rfl
theorem dL_law_631 : decode cL_law 631 = .ok (.iconst 1, 1) := o_4 (u1_7 hc_L_law_624 rfl) rfl
theorem dL_law_632 : decode cL_law 632 = .ok (.iadd, 1) := o_96 (u1_8 hc_L_law_624 rfl) rfl
theorem dL_law_633 : decode cL_law 633 = .ok (.iaload, 1) := o_46 (u1_9 hc_L_law_624 rfl) rfl
theorem dL_law_634 : decode cL_law 634 = .ok (.aload_n 0, 1) := o_42 (u1_10 hc_L_law_624 rfl) rfl
theorem dL_law_635 : decode cL_law 635 = .ok (.iload_n 3, 1) := o_29 (u1_11 hc_L_law_624 rfl) rfl
theorem dL_law_636 : decode cL_law 636 = .ok (.iconst 2, 1) := o_5 (u1_12 hc_L_law_624 rfl) rfl
theorem dL_law_637 : decode cL_law 637 = .ok (.iadd, 1) := o_96 (u1_13 hc_L_law_624 rfl) rfl
theorem dL_law_638 : decode cL_law 638 = .ok (.iaload, 1) := o_46 (u1_14 hc_L_law_624 rfl) rfl
theorem dL_law_639 : decode cL_law 639 = .ok (.invokevirtual 74, 3) := o_182 (u1_15 hc_L_law_624 rfl) (u2_d (u1_16 hc_L_law_624 rfl) (u1_17 hc_L_law_624 rfl) rfl) rfl
theorem hc_L_law_640 : ((bL cL_law).drop 640).take 18 = [0, 74, 87, 44, 42, 29, 4, 96, 46, 42, 29, 5, 96, 46, 182, 0, 77, 87] := by decide +kernel
theorem dL_law_642 : decode cL_law 642 = .ok (.pop, 1) := o_87 (u1_2 hc_L_law_640 rfl) rfl
theorem dL_law_643 : decode cL_law 643 = .ok (.aload_n 2, 1) := o_44 (u1_3 hc_L_law_640 rfl) rfl
theorem dL_law_644 : decode cL_law 644 = .ok (.aload_n 0, 1) := o_42 (u1_4 hc_L_law_640 rfl) rfl
theorem dL_law_645 : decode cL_law 645 = .ok (.iload_n 3, 1) := o_29 (u1_5 hc_L_law_640 rfl) rfl
theorem dL_law_646 : decode cL_law 646 = .ok (.iconst 1, 1) := o_4 (u1_6 hc_L_law_640 rfl) rfl
theorem dL_law_647 : decode cL_law 647 = .ok (.iadd, 1) := o_96 (u1_7 hc_L_law_640 rfl) rfl
theorem dL_law_648 : decode cL_law 648 = .ok (.iaload, 1) := o_46 (u1_8 hc_L_law_640 rfl) rfl
theorem dL_law_649 : decode cL_law 649 = .ok (.aload_n 0, 1) := o_42 (u1_9 hc_L_law_640 rfl) rfl
theorem dL_law_650 : decode cL_law 650 = .ok (.iload_n 3, 1) := o_29 (u1_10 hc_L_law_640 rfl) rfl
theorem dL_law_651 : decode cL_law 651 = .ok (.iconst 2, 1) := o_5 (u1_11 hc_L_law_640 rfl) rfl
theorem dL_law_652 : decode cL_law 652 = .ok (.iadd, 1) := o_96 (u1_12 hc_L_law_640 rfl) rfl
theorem dL_law_653 : decode cL_law 653 = .ok (.iaload, 1) := o_46 (u1_13 hc_L_law_640 rfl) rfl
theorem dL_law_654 : decode cL_law 654 = .ok (.invokevirtual 77, 3) := o_182 (u1_14 hc_L_law_640 rfl) (u2_d (u1_15 hc_L_law_640 rfl) (u1_16 hc_L_law_640 rfl) rfl) rfl
theorem hc_L_law_656 : ((bL cL_law).drop 656).take 18 = [77, 87, 167, 3, 35, 43, 42, 29, 4, 96, 46, 182, 0, 78, 87, 44, 42, 29] := by decide +kernel
theorem dL_law_657 : decode cL_law 657 = .ok (.pop, 1) := o_87 (u1_1 hc_L_law_656 rfl) rfl
theorem dL_law_658 : decode cL_law 658 = .ok (.goto 803, 3) := o_167 (u1_2 hc_L_law_656 rfl) (s2_d (u2_d (u1_3 hc_L_law_656 rfl) (u1_4 hc_L_law_656 rfl) rfl) rfl) rfl
theorem dL_law_661 : decode cL_law 661 = .ok (.aload_n 1, 1) := o_43 (u1_5 hc_L_law_656 rfl) rfl
theorem dL_law_662 : decode cL_law 662 = .ok (.aload_n 0, 1) := o_42 (u1_6 hc_L_law_656 rfl) rfl
theorem dL_law_663 : decode cL_law 663 = .ok (.iload_n 3, 1) := o_29 (u1_7 hc_L_law_656 rfl) rfl
theorem dL_law_664 : decode cL_law 664 = .ok (.iconst 1, 1) := o_4 (u1_8 hc_L_law_656 rfl) rfl
theorem dL_law_665 : decode cL_law 665 = .ok (.iadd, 1) := o_96 (u1_9 hc_L_law_656 rfl) rfl
theorem dL_law_666 : decode cL_law 666 = .ok (.iaload, 1) := o_46 (u1_10 hc_L_law_656 rfl) rfl
theorem dL_law_667 : decode cL_law 667 = .ok (.invokevirtual 78, 3) := o_182 (u1_11 hc_L_law_656 rfl) (u2_d (u1_12 hc_L_law_656 rfl) (u1_13 hc_L_law_656 rfl) rfl) rfl
theorem dL_law_670 : decode cL_law 670 = .ok (.pop, 1) := o_87 (u1_14 hc_L_law_656 rfl) rfl
theorem dL_law_671 : decode cL_law 671 = .ok (.aload_n 2, 1) := o_44 (u1_15 hc_L_law_656 rfl) rfl
theorem hc_L_law_672 : ((bL cL_law).drop 672).take 18 = [42, 29, 4, 96, 46, 182, 0, 81, 87, 167, 3, 12, 43, 42, 29, 4, 96, 46] := by decide +kernel
theorem dL_law_672 : decode cL_law 672 = .ok (.aload_n 0, 1) := o_42 (u1_0 hc_L_law_672 rfl) rfl
theorem dL_law_673 : decode cL_law 673 = .ok (.iload_n 3, 1) := o_29 (u1_1 hc_L_law_672 rfl) rfl
theorem dL_law_674 : decode cL_law 674 = .ok (.iconst 1, 1) := o_4 (u1_2 hc_L_law_672 rfl) rfl
theorem dL_law_675 : decode cL_law 675 = .ok (.iadd, 1) := o_96 (u1_3 hc_L_law_672 rfl) rfl
theorem dL_law_676 : decode cL_law 676 = .ok (.iaload, 1) := o_46 (u1_4 hc_L_law_672 rfl) rfl
theorem dL_law_677 : decode cL_law 677 = .ok (.invokevirtual 81, 3) := o_182 (u1_5 hc_L_law_672 rfl) (u2_d (u1_6 hc_L_law_672 rfl) (u1_7 hc_L_law_672 rfl) rfl) rfl
theorem dL_law_680 : decode cL_law 680 = .ok (.pop, 1) := o_87 (u1_8 hc_L_law_672 rfl) rfl
theorem dL_law_681 : decode cL_law 681 = .ok (.goto 780, 3) := o_167 (u1_9 hc_L_law_672 rfl) (s2_d (u2_d (u1_10 hc_L_law_672 rfl) (u1_11 hc_L_law_672 rfl) rfl) rfl) rfl
theorem dL_law_684 : decode cL_law 684 = .ok (.aload_n 1, 1) := o_43 (u1_12 hc_L_law_672 rfl) rfl
theorem dL_law_685 : decode cL_law 685 = .ok (.aload_n 0, 1) := o_42 (u1_13 hc_L_law_672 rfl) rfl
theorem dL_law_686 : decode cL_law 686 = .ok (.iload_n 3, 1) := o_29 (u1_14 hc_L_law_672 rfl) rfl
theorem dL_law_687 : decode cL_law 687 = .ok (.iconst 1, 1) := o_4 (u1_15 hc_L_law_672 rfl) rfl
theorem hc_L_law_688 : ((bL cL_law).drop 688).take 18 = [96, 46, 42, 29, 5, 96, 46, 42, 29, 6, 96, 46, 153, 0, 7, 4, 167, 0] := by decide +kernel
theorem dL_law_688 : decode cL_law 688 = .ok (.iadd, 1) := o_96 (u1_0 hc_L_law_688 rfl) rfl
theorem dL_law_689 : decode cL_law 689 = .ok (.iaload, 1) := o_46 (u1_1 hc_L_law_688 rfl) rfl
theorem dL_law_690 : decode cL_law 690 = .ok (.aload_n 0, 1) := o_42 (u1_2 hc_L_law_688 rfl) rfl
theorem dL_law_691 : decode cL_law 691 = .ok (.iload_n 3, 1) := o_29 (u1_3 hc_L_law_688 rfl) rfl
theorem dL_law_692 : decode cL_law 692 = .ok (.iconst 2, 1) := o_5 (u1_4 hc_L_law_688 rfl) rfl
theorem dL_law_693 : decode cL_law 693 = .ok (.iadd, 1) := o_96 (u1_5 hc_L_law_688 rfl) rfl
theorem dL_law_694 : decode cL_law 694 = .ok (.iaload, 1) := o_46 (u1_6 hc_L_law_688 rfl) rfl
theorem dL_law_695 : decode cL_law 695 = .ok (.aload_n 0, 1) := o_42 (u1_7 hc_L_law_688 rfl) rfl
theorem dL_law_696 : decode cL_law 696 = .ok (.iload_n 3, 1) := o_29 (u1_8 hc_L_law_688 rfl) rfl
theorem dL_law_697 : decode cL_law 697 = .ok (.iconst 3, 1) := o_6 (u1_9 hc_L_law_688 rfl) rfl
theorem dL_law_698 : decode cL_law 698 = .ok (.iadd, 1) := o_96 (u1_10 hc_L_law_688 rfl) rfl
theorem dL_law_699 : decode cL_law 699 = .ok (.iaload, 1) := o_46 (u1_11 hc_L_law_688 rfl) rfl
theorem dL_law_700 : decode cL_law 700 = .ok (.ifCond .eq 7, 3) := o_153 (u1_12 hc_L_law_688 rfl) (s2_d (u2_d (u1_13 hc_L_law_688 rfl) (u1_14 hc_L_law_688 rfl) rfl) rfl) rfl
theorem dL_law_703 : decode cL_law 703 = .ok (.iconst 1, 1) := o_4 (u1_15 hc_L_law_688 rfl) rfl
theorem hc_L_law_704 : ((bL cL_law).drop 704).take 18 = [167, 0, 4, 3, 182, 0, 82, 87, 44, 42, 29, 4, 96, 46, 42, 29, 5, 96] := by decide +kernel
theorem dL_law_704 : decode cL_law 704 = .ok (.goto 4, 3) := o_167 (u1_0 hc_L_law_704 rfl) (s2_d (u2_d (u1_1 hc_L_law_704 rfl) (u1_2 hc_L_law_704 rfl) rfl) rfl) rfl
theorem dL_law_707 : decode cL_law 707 = .ok (.iconst 0, 1) := o_3 (u1_3 hc_L_law_704 rfl) rfl
theorem dL_law_708 : decode cL_law 708 = .ok (.invokevirtual 82, 3) := o_182 (u1_4 hc_L_law_704 rfl) (u2_d (u1_5 hc_L_law_704 rfl) (u1_6 hc_L_law_704 rfl) rfl) rfl
theorem dL_law_711 : decode cL_law 711 = .ok (.pop, 1) := o_87 (u1_7 hc_L_law_704 rfl) rfl
theorem dL_law_712 : decode cL_law 712 = .ok (.aload_n 2, 1) := o_44 (u1_8 hc_L_law_704 rfl) rfl
theorem dL_law_713 : decode cL_law 713 = .ok (.aload_n 0, 1) := o_42 (u1_9 hc_L_law_704 rfl) rfl
theorem dL_law_714 : decode cL_law 714 = .ok (.iload_n 3, 1) := o_29 (u1_10 hc_L_law_704 rfl) rfl
theorem dL_law_715 : decode cL_law 715 = .ok (.iconst 1, 1) := o_4 (u1_11 hc_L_law_704 rfl) rfl
theorem dL_law_716 : decode cL_law 716 = .ok (.iadd, 1) := o_96 (u1_12 hc_L_law_704 rfl) rfl
theorem dL_law_717 : decode cL_law 717 = .ok (.iaload, 1) := o_46 (u1_13 hc_L_law_704 rfl) rfl
theorem dL_law_718 : decode cL_law 718 = .ok (.aload_n 0, 1) := o_42 (u1_14 hc_L_law_704 rfl) rfl
theorem dL_law_719 : decode cL_law 719 = .ok (.iload_n 3, 1) := o_29 (u1_15 hc_L_law_704 rfl) rfl
theorem hc_L_law_720 : ((bL cL_law).drop 720).take 18 = [5, 96, 46, 42, 29, 6, 96, 46, 153, 0, 7, 4, 167, 0, 4, 3, 182, 0] := by decide +kernel
theorem dL_law_720 : decode cL_law 720 = .ok (.iconst 2, 1) := o_5 (u1_0 hc_L_law_720 rfl) rfl
theorem dL_law_721 : decode cL_law 721 = .ok (.iadd, 1) := o_96 (u1_1 hc_L_law_720 rfl) rfl
theorem dL_law_722 : decode cL_law 722 = .ok (.iaload, 1) := o_46 (u1_2 hc_L_law_720 rfl) rfl
theorem dL_law_723 : decode cL_law 723 = .ok (.aload_n 0, 1) := o_42 (u1_3 hc_L_law_720 rfl) rfl
theorem dL_law_724 : decode cL_law 724 = .ok (.iload_n 3, 1) := o_29 (u1_4 hc_L_law_720 rfl) rfl
theorem dL_law_725 : decode cL_law 725 = .ok (.iconst 3, 1) := o_6 (u1_5 hc_L_law_720 rfl) rfl
theorem dL_law_726 : decode cL_law 726 = .ok (.iadd, 1) := o_96 (u1_6 hc_L_law_720 rfl) rfl
theorem dL_law_727 : decode cL_law 727 = .ok (.iaload, 1) := o_46 (u1_7 hc_L_law_720 rfl) rfl
theorem dL_law_728 : decode cL_law 728 = .ok (.ifCond .eq 7, 3) := o_153 (u1_8 hc_L_law_720 rfl) (s2_d (u2_d (u1_9 hc_L_law_720 rfl) (u1_10 hc_L_law_720 rfl) rfl) rfl) rfl
theorem dL_law_731 : decode cL_law 731 = .ok (.iconst 1, 1) := o_4 (u1_11 hc_L_law_720 rfl) rfl
theorem dL_law_732 : decode cL_law 732 = .ok (.goto 4, 3) := o_167 (u1_12 hc_L_law_720 rfl) (s2_d (u2_d (u1_13 hc_L_law_720 rfl) (u1_14 hc_L_law_720 rfl) rfl) rfl) rfl
theorem dL_law_735 : decode cL_law 735 = .ok (.iconst 0, 1) := o_3 (u1_15 hc_L_law_720 rfl) rfl
theorem hc_L_law_736 : ((bL cL_law).drop 736).take 18 = [182, 0, 86, 87, 167, 2, 209, 43, 42, 29, 4, 96, 46, 42, 29, 5, 96, 46] := by decide +kernel
theorem dL_law_736 : decode cL_law 736 = .ok (.invokevirtual 86, 3) := o_182 (u1_0 hc_L_law_736 rfl) (u2_d (u1_1 hc_L_law_736 rfl) (u1_2 hc_L_law_736 rfl) rfl) rfl
theorem dL_law_739 : decode cL_law 739 = .ok (.pop, 1) := o_87 (u1_3 hc_L_law_736 rfl) rfl
theorem dL_law_740 : decode cL_law 740 = .ok (.goto 721, 3) := o_167 (u1_4 hc_L_law_736 rfl) (s2_d (u2_d (u1_5 hc_L_law_736 rfl) (u1_6 hc_L_law_736 rfl) rfl) rfl) rfl
theorem dL_law_743 : decode cL_law 743 = .ok (.aload_n 1, 1) := o_43 (u1_7 hc_L_law_736 rfl) rfl
theorem dL_law_744 : decode cL_law 744 = .ok (.aload_n 0, 1) := o_42 (u1_8 hc_L_law_736 rfl) rfl
theorem dL_law_745 : decode cL_law 745 = .ok (.iload_n 3, 1) := o_29 (u1_9 hc_L_law_736 rfl) rfl
theorem dL_law_746 : decode cL_law 746 = .ok (.iconst 1, 1) := o_4 (u1_10 hc_L_law_736 rfl) rfl
theorem dL_law_747 : decode cL_law 747 = .ok (.iadd, 1) := o_96 (u1_11 hc_L_law_736 rfl) rfl
theorem dL_law_748 : decode cL_law 748 = .ok (.iaload, 1) := o_46 (u1_12 hc_L_law_736 rfl) rfl
theorem dL_law_749 : decode cL_law 749 = .ok (.aload_n 0, 1) := o_42 (u1_13 hc_L_law_736 rfl) rfl
theorem dL_law_750 : decode cL_law 750 = .ok (.iload_n 3, 1) := o_29 (u1_14 hc_L_law_736 rfl) rfl
theorem dL_law_751 : decode cL_law 751 = .ok (.iconst 2, 1) := o_5 (u1_15 hc_L_law_736 rfl) rfl
theorem hc_L_law_752 : ((bL cL_law).drop 752).take 18 = [96, 46, 42, 29, 6, 96, 46, 153, 0, 7, 4, 167, 0, 4, 3, 182, 0, 87] := by decide +kernel
theorem dL_law_752 : decode cL_law 752 = .ok (.iadd, 1) := o_96 (u1_0 hc_L_law_752 rfl) rfl
theorem dL_law_753 : decode cL_law 753 = .ok (.iaload, 1) := o_46 (u1_1 hc_L_law_752 rfl) rfl
theorem dL_law_754 : decode cL_law 754 = .ok (.aload_n 0, 1) := o_42 (u1_2 hc_L_law_752 rfl) rfl
theorem dL_law_755 : decode cL_law 755 = .ok (.iload_n 3, 1) := o_29 (u1_3 hc_L_law_752 rfl) rfl
theorem dL_law_756 : decode cL_law 756 = .ok (.iconst 3, 1) := o_6 (u1_4 hc_L_law_752 rfl) rfl
theorem dL_law_757 : decode cL_law 757 = .ok (.iadd, 1) := o_96 (u1_5 hc_L_law_752 rfl) rfl
theorem dL_law_758 : decode cL_law 758 = .ok (.iaload, 1) := o_46 (u1_6 hc_L_law_752 rfl) rfl
theorem dL_law_759 : decode cL_law 759 = .ok (.ifCond .eq 7, 3) := o_153 (u1_7 hc_L_law_752 rfl) (s2_d (u2_d (u1_8 hc_L_law_752 rfl) (u1_9 hc_L_law_752 rfl) rfl) rfl) rfl
theorem dL_law_762 : decode cL_law 762 = .ok (.iconst 1, 1) := o_4 (u1_10 hc_L_law_752 rfl) rfl
theorem dL_law_763 : decode cL_law 763 = .ok (.goto 4, 3) := o_167 (u1_11 hc_L_law_752 rfl) (s2_d (u2_d (u1_12 hc_L_law_752 rfl) (u1_13 hc_L_law_752 rfl) rfl) rfl) rfl
theorem dL_law_766 : decode cL_law 766 = .ok (.iconst 0, 1) := o_3 (u1_14 hc_L_law_752 rfl) rfl
theorem dL_law_767 : decode cL_law 767 = .ok (.invokevirtual 87, 3) := o_182 (u1_15 hc_L_law_752 rfl) (u2_d (u1_16 hc_L_law_752 rfl) (u1_17 hc_L_law_752 rfl) rfl) rfl
theorem hc_L_law_768 : ((bL cL_law).drop 768).take 18 = [0, 87, 44, 42, 29, 4, 96, 46, 42, 29, 5, 96, 46, 42, 29, 6, 96, 46] := by decide +kernel
theorem dL_law_770 : decode cL_law 770 = .ok (.aload_n 2, 1) := o_44 (u1_2 hc_L_law_768 rfl) rfl
theorem dL_law_771 : decode cL_law 771 = .ok (.aload_n 0, 1) := o_42 (u1_3 hc_L_law_768 rfl) rfl
theorem dL_law_772 : decode cL_law 772 = .ok (.iload_n 3, 1) := o_29 (u1_4 hc_L_law_768 rfl) rfl
theorem dL_law_773 : decode cL_law 773 = .ok (.iconst 1, 1) := o_4 (u1_5 hc_L_law_768 rfl) rfl
theorem dL_law_774 : decode cL_law 774 = .ok (.iadd, 1) := o_96 (u1_6 hc_L_law_768 rfl) rfl
theorem dL_law_775 : decode cL_law 775 = .ok (.iaload, 1) := o_46 (u1_7 hc_L_law_768 rfl) rfl
theorem dL_law_776 : decode cL_law 776 = .ok (.aload_n 0, 1) := o_42 (u1_8 hc_L_law_768 rfl) rfl
theorem dL_law_777 : decode cL_law 777 = .ok (.iload_n 3, 1) := o_29 (u1_9 hc_L_law_768 rfl) rfl
theorem dL_law_778 : decode cL_law 778 = .ok (.iconst 2, 1) := o_5 (u1_10 hc_L_law_768 rfl) rfl
theorem dL_law_779 : decode cL_law 779 = .ok (.iadd, 1) := o_96 (u1_11 hc_L_law_768 rfl) rfl
theorem dL_law_780 : decode cL_law 780 = .ok (.iaload, 1) := o_46 (u1_12 hc_L_law_768 rfl) rfl
theorem dL_law_781 : decode cL_law 781 = .ok (.aload_n 0, 1) := o_42 (u1_13 hc_L_law_768 rfl) rfl
theorem dL_law_782 : decode cL_law 782 = .ok (.iload_n 3, 1) := o_29 (u1_14 hc_L_law_768 rfl) rfl
theorem dL_law_783 : decode cL_law 783 = .ok (.iconst 3, 1) := o_6 (u1_15 hc_L_law_768 rfl) rfl
theorem hc_L_law_784 : ((bL cL_law).drop 784).take 18 = [96, 46, 153, 0, 7, 4, 167, 0, 4, 3, 182, 0, 90, 159, 2, 152, 3, 172] := by decide +kernel
theorem dL_law_784 : decode cL_law 784 = .ok (.iadd, 1) := o_96 (u1_0 hc_L_law_784 rfl) rfl
theorem dL_law_785 : decode cL_law 785 = .ok (.iaload, 1) := o_46 (u1_1 hc_L_law_784 rfl) rfl
theorem dL_law_786 : decode cL_law 786 = .ok (.ifCond .eq 7, 3) := o_153 (u1_2 hc_L_law_784 rfl) (s2_d (u2_d (u1_3 hc_L_law_784 rfl) (u1_4 hc_L_law_784 rfl) rfl) rfl) rfl
theorem dL_law_789 : decode cL_law 789 = .ok (.iconst 1, 1) := o_4 (u1_5 hc_L_law_784 rfl) rfl
theorem dL_law_790 : decode cL_law 790 = .ok (.goto 4, 3) := o_167 (u1_6 hc_L_law_784 rfl) (s2_d (u2_d (u1_7 hc_L_law_784 rfl) (u1_8 hc_L_law_784 rfl) rfl) rfl) rfl
theorem dL_law_793 : decode cL_law 793 = .ok (.iconst 0, 1) := o_3 (u1_9 hc_L_law_784 rfl) rfl
theorem dL_law_794 : decode cL_law 794 = .ok (.invokevirtual 90, 3) := o_182 (u1_10 hc_L_law_784 rfl) (u2_d (u1_11 hc_L_law_784 rfl) (u1_12 hc_L_law_784 rfl) rfl) rfl
theorem dL_law_797 : decode cL_law 797 = .ok (.if_icmp .eq 664, 3) := o_159 (u1_13 hc_L_law_784 rfl) (s2_d (u2_d (u1_14 hc_L_law_784 rfl) (u1_15 hc_L_law_784 rfl) rfl) rfl) rfl
theorem hc_L_law_800 : ((bL cL_law).drop 800).take 18 = [3, 172, 43, 42, 29, 4, 96, 46, 182, 0, 91, 87, 44, 42, 29, 4, 96, 46] := by decide +kernel
theorem dL_law_802 : decode cL_law 802 = .ok (.aload_n 1, 1) := o_43 (u1_2 hc_L_law_800 rfl) rfl
theorem dL_law_803 : decode cL_law 803 = .ok (.aload_n 0, 1) := o_42 (u1_3 hc_L_law_800 rfl) rfl
theorem dL_law_804 : decode cL_law 804 = .ok (.iload_n 3, 1) := o_29 (u1_4 hc_L_law_800 rfl) rfl
theorem dL_law_805 : decode cL_law 805 = .ok (.iconst 1, 1) := o_4 (u1_5 hc_L_law_800 rfl) rfl
theorem dL_law_806 : decode cL_law 806 = .ok (.iadd, 1) := o_96 (u1_6 hc_L_law_800 rfl) rfl
theorem dL_law_807 : decode cL_law 807 = .ok (.iaload, 1) := o_46 (u1_7 hc_L_law_800 rfl) rfl
theorem dL_law_808 : decode cL_law 808 = .ok (.invokevirtual 91, 3) := o_182 (u1_8 hc_L_law_800 rfl) (u2_d (u1_9 hc_L_law_800 rfl) (u1_10 hc_L_law_800 rfl) rfl) rfl
theorem dL_law_811 : decode cL_law 811 = .ok (.pop, 1) := o_87 (u1_11 hc_L_law_800 rfl) rfl
theorem dL_law_812 : decode cL_law 812 = .ok (.aload_n 2, 1) := o_44 (u1_12 hc_L_law_800 rfl) rfl
theorem dL_law_813 : decode cL_law 813 = .ok (.aload_n 0, 1) := o_42 (u1_13 hc_L_law_800 rfl) rfl
theorem dL_law_814 : decode cL_law 814 = .ok (.iload_n 3, 1) := o_29 (u1_14 hc_L_law_800 rfl) rfl
theorem dL_law_815 : decode cL_law 815 = .ok (.iconst 1, 1) := o_4 (u1_15 hc_L_law_800 rfl) rfl
theorem hc_L_law_816 : ((bL cL_law).drop 816).take 18 = [96, 46, 182, 0, 94, 87, 167, 2, 127, 43, 42, 29, 4, 96, 46, 42, 29, 5] := by decide +kernel
theorem dL_law_816 : decode cL_law 816 = .ok (.iadd, 1) := o_96 (u1_0 hc_L_law_816 rfl) rfl
theorem dL_law_817 : decode cL_law 817 = .ok (.iaload, 1) := o_46 (u1_1 hc_L_law_816 rfl) rfl
theorem dL_law_818 : decode cL_law 818 = .ok (.invokevirtual 94, 3) := o_182 (u1_2 hc_L_law_816 rfl) (u2_d (u1_3 hc_L_law_816 rfl) (u1_4 hc_L_law_816 rfl) rfl) rfl
theorem dL_law_821 : decode cL_law 821 = .ok (.pop, 1) := o_87 (u1_5 hc_L_law_816 rfl) rfl
theorem dL_law_822 : decode cL_law 822 = .ok (.goto 639, 3) := o_167 (u1_6 hc_L_law_816 rfl) (s2_d (u2_d (u1_7 hc_L_law_816 rfl) (u1_8 hc_L_law_816 rfl) rfl) rfl) rfl
theorem dL_law_825 : decode cL_law 825 = .ok (.aload_n 1, 1) := o_43 (u1_9 hc_L_law_816 rfl) rfl
theorem dL_law_826 : decode cL_law 826 = .ok (.aload_n 0, 1) := o_42 (u1_10 hc_L_law_816 rfl) rfl
theorem dL_law_827 : decode cL_law 827 = .ok (.iload_n 3, 1) := o_29 (u1_11 hc_L_law_816 rfl) rfl
theorem dL_law_828 : decode cL_law 828 = .ok (.iconst 1, 1) := o_4 (u1_12 hc_L_law_816 rfl) rfl
theorem dL_law_829 : decode cL_law 829 = .ok (.iadd, 1) := o_96 (u1_13 hc_L_law_816 rfl) rfl
theorem dL_law_830 : decode cL_law 830 = .ok (.iaload, 1) := o_46 (u1_14 hc_L_law_816 rfl) rfl
theorem dL_law_831 : decode cL_law 831 = .ok (.aload_n 0, 1) := o_42 (u1_15 hc_L_law_816 rfl) rfl
theorem hc_L_law_832 : ((bL cL_law).drop 832).take 18 = [29, 5, 96, 46, 42, 29, 6, 96, 46, 182, 0, 95, 87, 44, 42, 29, 4, 96] := by decide +kernel
theorem dL_law_832 : decode cL_law 832 = .ok (.iload_n 3, 1) := o_29 (u1_0 hc_L_law_832 rfl) rfl
theorem dL_law_833 : decode cL_law 833 = .ok (.iconst 2, 1) := o_5 (u1_1 hc_L_law_832 rfl) rfl
theorem dL_law_834 : decode cL_law 834 = .ok (.iadd, 1) := o_96 (u1_2 hc_L_law_832 rfl) rfl
theorem dL_law_835 : decode cL_law 835 = .ok (.iaload, 1) := o_46 (u1_3 hc_L_law_832 rfl) rfl
theorem dL_law_836 : decode cL_law 836 = .ok (.aload_n 0, 1) := o_42 (u1_4 hc_L_law_832 rfl) rfl
theorem dL_law_837 : decode cL_law 837 = .ok (.iload_n 3, 1) := o_29 (u1_5 hc_L_law_832 rfl) rfl
theorem dL_law_838 : decode cL_law 838 = .ok (.iconst 3, 1) := o_6 (u1_6 hc_L_law_832 rfl) rfl
theorem dL_law_839 : decode cL_law 839 = .ok (.iadd, 1) := o_96 (u1_7 hc_L_law_832 rfl) rfl
theorem dL_law_840 : decode cL_law 840 = .ok (.iaload, 1) := o_46 (u1_8 hc_L_law_832 rfl) rfl
theorem dL_law_841 : decode cL_law 841 = .ok (.invokevirtual 95, 3) := o_182 (u1_9 hc_L_law_832 rfl) (u2_d (u1_10 hc_L_law_832 rfl) (u1_11 hc_L_law_832 rfl) rfl) rfl
theorem dL_law_844 : decode cL_law 844 = .ok (.pop, 1) := o_87 (u1_12 hc_L_law_832 rfl) rfl
theorem dL_law_845 : decode cL_law 845 = .ok (.aload_n 2, 1) := o_44 (u1_13 hc_L_law_832 rfl) rfl
theorem dL_law_846 : decode cL_law 846 = .ok (.aload_n 0, 1) := o_42 (u1_14 hc_L_law_832 rfl) rfl
theorem dL_law_847 : decode cL_law 847 = .ok (.iload_n 3, 1) := o_29 (u1_15 hc_L_law_832 rfl) rfl
theorem hc_L_law_848 : ((bL cL_law).drop 848).take 18 = [4, 96, 46, 42, 29, 5, 96, 46, 42, 29, 6, 96, 46, 182, 0, 98, 87, 167] := by decide +kernel
theorem dL_law_848 : decode cL_law 848 = .ok (.iconst 1, 1) := o_4 (u1_0 hc_L_law_848 rfl) rfl
theorem dL_law_849 : decode cL_law 849 = .ok (.iadd, 1) := o_96 (u1_1 hc_L_law_848 rfl) rfl
theorem dL_law_850 : decode cL_law 850 = .ok (.iaload, 1) := o_46 (u1_2 hc_L_law_848 rfl) rfl
theorem dL_law_851 : decode cL_law 851 = .ok (.aload_n 0, 1) := o_42 (u1_3 hc_L_law_848 rfl) rfl
theorem dL_law_852 : decode cL_law 852 = .ok (.iload_n 3, 1) := o_29 (u1_4 hc_L_law_848 rfl) rfl
theorem dL_law_853 : decode cL_law 853 = .ok (.iconst 2, 1) := o_5 (u1_5 hc_L_law_848 rfl) rfl
theorem dL_law_854 : decode cL_law 854 = .ok (.iadd, 1) := o_96 (u1_6 hc_L_law_848 rfl) rfl
theorem dL_law_855 : decode cL_law 855 = .ok (.iaload, 1) := o_46 (u1_7 hc_L_law_848 rfl) rfl
theorem dL_law_856 : decode cL_law 856 = .ok (.aload_n 0, 1) := o_42 (u1_8 hc_L_law_848 rfl) rfl
theorem dL_law_857 : decode cL_law 857 = .ok (.iload_n 3, 1) := o_29 (u1_9 hc_L_law_848 rfl) rfl
theorem dL_law_858 : decode cL_law 858 = .ok (.iconst 3, 1) := o_6 (u1_10 hc_L_law_848 rfl) rfl
theorem dL_law_859 : decode cL_law 859 = .ok (.iadd, 1) := o_96 (u1_11 hc_L_law_848 rfl) rfl
theorem dL_law_860 : decode cL_law 860 = .ok (.iaload, 1) := o_46 (u1_12 hc_L_law_848 rfl) rfl
theorem dL_law_861 : decode cL_law 861 = .ok (.invokevirtual 98, 3) := o_182 (u1_13 hc_L_law_848 rfl) (u2_d (u1_14 hc_L_law_848 rfl) (u1_15 hc_L_law_848 rfl) rfl) rfl
theorem hc_L_law_864 : ((bL cL_law).drop 864).take 18 = [87, 167, 2, 84, 43, 182, 0, 99, 87, 44, 182, 0, 103, 87, 167, 2, 71, 43] := by decide +kernel
theorem dL_law_864 : decode cL_law 864 = .ok (.pop, 1) := o_87 (u1_0 hc_L_law_864 rfl) rfl
theorem dL_law_865 : decode cL_law 865 = .ok (.goto 596, 3) := o_167 (u1_1 hc_L_law_864 rfl) (s2_d (u2_d (u1_2 hc_L_law_864 rfl) (u1_3 hc_L_law_864 rfl) rfl) rfl) rfl
theorem dL_law_868 : decode cL_law 868 = .ok (.aload_n 1, 1) := o_43 (u1_4 hc_L_law_864 rfl) rfl
theorem dL_law_869 : decode cL_law 869 = .ok (.invokevirtual 99, 3) := o_182 (u1_5 hc_L_law_864 rfl) (u2_d (u1_6 hc_L_law_864 rfl) (u1_7 hc_L_law_864 rfl) rfl) rfl
theorem dL_law_872 : decode cL_law 872 = .ok (.pop, 1) := o_87 (u1_8 hc_L_law_864 rfl) rfl
theorem dL_law_873 : decode cL_law 873 = .ok (.aload_n 2, 1) := o_44 (u1_9 hc_L_law_864 rfl) rfl
theorem dL_law_874 : decode cL_law 874 = .ok (.invokevirtual 103, 3) := o_182 (u1_10 hc_L_law_864 rfl) (u2_d (u1_11 hc_L_law_864 rfl) (u1_12 hc_L_law_864 rfl) rfl) rfl
theorem dL_law_877 : decode cL_law 877 = .ok (.pop, 1) := o_87 (u1_13 hc_L_law_864 rfl) rfl
theorem dL_law_878 : decode cL_law 878 = .ok (.goto 583, 3) := o_167 (u1_14 hc_L_law_864 rfl) (s2_d (u2_d (u1_15 hc_L_law_864 rfl) (u1_16 hc_L_law_864 rfl) rfl) rfl) rfl
theorem hc_L_law_880 : ((bL cL_law).drop 880).take 18 = [71, 43, 42, 29, 4, 96, 46, 42, 29, 5, 96, 46, 182, 0, 104, 87, 44, 42] := by decide +kernel
theorem dL_law_881 : decode cL_law 881 = .ok (.aload_n 1, 1) := o_43 (u1_1 hc_L_law_880 rfl) rfl
theorem dL_law_882 : decode cL_law 882 = .ok (.aload_n 0, 1) := o_42 (u1_2 hc_L_law_880 rfl) rfl
theorem dL_law_883 : decode cL_law 883 = .ok (.iload_n 3, 1) := o_29 (u1_3 hc_L_law_880 rfl) rfl
theorem dL_law_884 : decode cL_law 884 = .ok (.iconst 1, 1) := o_4 (u1_4 hc_L_law_880 rfl) rfl
theorem dL_law_885 : decode cL_law 885 = .ok (.iadd, 1) := o_96 (u1_5 hc_L_law_880 rfl) rfl
theorem dL_law_886 : decode cL_law 886 = .ok (.iaload, 1) := o_46 (u1_6 hc_L_law_880 rfl) rfl
theorem dL_law_887 : decode cL_law 887 = .ok (.aload_n 0, 1) := o_42 (u1_7 hc_L_law_880 rfl) rfl
theorem dL_law_888 : decode cL_law 888 = .ok (.iload_n 3, 1) := o_29 (u1_8 hc_L_law_880 rfl) rfl
theorem dL_law_889 : decode cL_law 889 = .ok (.iconst 2, 1) := o_5 (u1_9 hc_L_law_880 rfl) rfl
theorem dL_law_890 : decode cL_law 890 = .ok (.iadd, 1) := o_96 (u1_10 hc_L_law_880 rfl) rfl
theorem dL_law_891 : decode cL_law 891 = .ok (.iaload, 1) := o_46 (u1_11 hc_L_law_880 rfl) rfl
theorem dL_law_892 : decode cL_law 892 = .ok (.invokevirtual 104, 3) := o_182 (u1_12 hc_L_law_880 rfl) (u2_d (u1_13 hc_L_law_880 rfl) (u1_14 hc_L_law_880 rfl) rfl) rfl
theorem dL_law_895 : decode cL_law 895 = .ok (.pop, 1) := o_87 (u1_15 hc_L_law_880 rfl) rfl
theorem hc_L_law_896 : ((bL cL_law).drop 896).take 18 = [44, 42, 29, 4, 96, 46, 42, 29, 5, 96, 46, 182, 0, 107, 87, 167, 2, 38] := by decide +kernel
theorem dL_law_896 : decode cL_law 896 = .ok (.aload_n 2, 1) := o_44 (u1_0 hc_L_law_896 rfl) rfl
theorem dL_law_897 : decode cL_law 897 = .ok (.aload_n 0, 1) := o_42 (u1_1 hc_L_law_896 rfl) rfl
theorem dL_law_898 : decode cL_law 898 = .ok (.iload_n 3, 1) := o_29 (u1_2 hc_L_law_896 rfl) rfl
theorem dL_law_899 : decode cL_law 899 = .ok (.iconst 1, 1) := o_4 (u1_3 hc_L_law_896 rfl) rfl
theorem dL_law_900 : decode cL_law 900 = .ok (.iadd, 1) := o_96 (u1_4 hc_L_law_896 rfl) rfl
theorem dL_law_901 : decode cL_law 901 = .ok (.iaload, 1) := o_46 (u1_5 hc_L_law_896 rfl) rfl
theorem dL_law_902 : decode cL_law 902 = .ok (.aload_n 0, 1) := o_42 (u1_6 hc_L_law_896 rfl) rfl
theorem dL_law_903 : decode cL_law 903 = .ok (.iload_n 3, 1) := o_29 (u1_7 hc_L_law_896 rfl) rfl
theorem dL_law_904 : decode cL_law 904 = .ok (.iconst 2, 1) := o_5 (u1_8 hc_L_law_896 rfl) rfl
theorem dL_law_905 : decode cL_law 905 = .ok (.iadd, 1) := o_96 (u1_9 hc_L_law_896 rfl) rfl
theorem dL_law_906 : decode cL_law 906 = .ok (.iaload, 1) := o_46 (u1_10 hc_L_law_896 rfl) rfl
theorem dL_law_907 : decode cL_law 907 = .ok (.invokevirtual 107, 3) := o_182 (u1_11 hc_L_law_896 rfl) (u2_d (u1_12 hc_L_law_896 rfl) (u1_13 hc_L_law_896 rfl) rfl) rfl
theorem dL_law_910 : decode cL_law 910 = .ok (.pop, 1) := o_87 (u1_14 hc_L_law_896 rfl) rfl
theorem dL_law_911 : decode cL_law 911 = .ok (.goto 550, 3) := o_167 (u1_15 hc_L_law_896 rfl) (s2_d (u2_d (u1_16 hc_L_law_896 rfl) (u1_17 hc_L_law_896 rfl) rfl) rfl) rfl
theorem hc_L_law_912 : ((bL cL_law).drop 912).take 18 = [2, 38, 43, 42, 29, 4, 96, 46, 42, 29, 5, 96, 46, 182, 0, 108, 87, 44] := by decide +kernel
theorem dL_law_914 : decode cL_law 914 = .ok (.aload_n 1, 1) := o_43 (u1_2 hc_L_law_912 rfl) rfl
theorem dL_law_915 : decode cL_law 915 = .ok (.aload_n 0, 1) := o_42 (u1_3 hc_L_law_912 rfl) rfl
theorem dL_law_916 : decode cL_law 916 = .ok (.iload_n 3, 1) := o_29 (u1_4 hc_L_law_912 rfl) rfl
theorem dL_law_917 : decode cL_law 917 = .ok (.iconst 1, 1) := o_4 (u1_5 hc_L_law_912 rfl) rfl
theorem dL_law_918 : decode cL_law 918 = .ok (.iadd, 1) := o_96 (u1_6 hc_L_law_912 rfl) rfl
theorem dL_law_919 : decode cL_law 919 = .ok (.iaload, 1) := o_46 (u1_7 hc_L_law_912 rfl) rfl
theorem dL_law_920 : decode cL_law 920 = .ok (.aload_n 0, 1) := o_42 (u1_8 hc_L_law_912 rfl) rfl
theorem dL_law_921 : decode cL_law 921 = .ok (.iload_n 3, 1) := o_29 (u1_9 hc_L_law_912 rfl) rfl
theorem dL_law_922 : decode cL_law 922 = .ok (.iconst 2, 1) := o_5 (u1_10 hc_L_law_912 rfl) rfl
theorem dL_law_923 : decode cL_law 923 = .ok (.iadd, 1) := o_96 (u1_11 hc_L_law_912 rfl) rfl
theorem dL_law_924 : decode cL_law 924 = .ok (.iaload, 1) := o_46 (u1_12 hc_L_law_912 rfl) rfl
theorem dL_law_925 : decode cL_law 925 = .ok (.invokevirtual 108, 3) := o_182 (u1_13 hc_L_law_912 rfl) (u2_d (u1_14 hc_L_law_912 rfl) (u1_15 hc_L_law_912 rfl) rfl) rfl
theorem hc_L_law_928 : ((bL cL_law).drop 928).take 18 = [87, 44, 42, 29, 4, 96, 46, 42, 29, 5, 96, 46, 182, 0, 111, 87, 167, 2] := by decide +kernel
theorem dL_law_928 : decode cL_law 928 = .ok (.pop, 1) := o_87 (u1_0 hc_L_law_928 rfl) rfl
theorem dL_law_929 : decode cL_law 929 = .ok (.aload_n 2, 1) := o_44 (u1_1 hc_L_law_928 rfl) rfl
theorem dL_law_930 : decode cL_law 930 = .ok (.aload_n 0, 1) := o_42 (u1_2 hc_L_law_928 rfl) rfl
theorem dL_law_931 : decode cL_law 931 = .ok (.iload_n 3, 1) := o_29 (u1_3 hc_L_law_928 rfl) rfl
theorem dL_law_932 : decode cL_law 932 = .ok (.iconst 1, 1) := o_4 (u1_4 hc_L_law_928 rfl) rfl
theorem dL_law_933 : decode cL_law 933 = .ok (.iadd, 1) := o_96 (u1_5 hc_L_law_928 rfl) rfl
theorem dL_law_934 : decode cL_law 934 = .ok (.iaload, 1) := o_46 (u1_6 hc_L_law_928 rfl) rfl
theorem dL_law_935 : decode cL_law 935 = .ok (.aload_n 0, 1) := o_42 (u1_7 hc_L_law_928 rfl) rfl
theorem dL_law_936 : decode cL_law 936 = .ok (.iload_n 3, 1) := o_29 (u1_8 hc_L_law_928 rfl) rfl
theorem dL_law_937 : decode cL_law 937 = .ok (.iconst 2, 1) := o_5 (u1_9 hc_L_law_928 rfl) rfl
theorem dL_law_938 : decode cL_law 938 = .ok (.iadd, 1) := o_96 (u1_10 hc_L_law_928 rfl) rfl
theorem dL_law_939 : decode cL_law 939 = .ok (.iaload, 1) := o_46 (u1_11 hc_L_law_928 rfl) rfl
theorem dL_law_940 : decode cL_law 940 = .ok (.invokevirtual 111, 3) := o_182 (u1_12 hc_L_law_928 rfl) (u2_d (u1_13 hc_L_law_928 rfl) (u1_14 hc_L_law_928 rfl) rfl) rfl
theorem dL_law_943 : decode cL_law 943 = .ok (.pop, 1) := o_87 (u1_15 hc_L_law_928 rfl) rfl
theorem hc_L_law_944 : ((bL cL_law).drop 944).take 18 = [167, 2, 5, 43, 182, 0, 112, 87, 44, 182, 0, 115, 87, 167, 1, 248, 43, 42] := by decide +kernel
theorem dL_law_944 : decode cL_law 944 = .ok (.goto 517, 3) := o_167 (u1_0 hc_L_law_944 rfl) (s2_d (u2_d (u1_1 hc_L_law_944 rfl) (u1_2 hc_L_law_944 rfl) rfl) rfl) rfl
theorem dL_law_947 : decode cL_law 947 = .ok (.aload_n 1, 1) := o_43 (u1_3 hc_L_law_944 rfl) rfl
theorem dL_law_948 : decode cL_law 948 = .ok (.invokevirtual 112, 3) := o_182 (u1_4 hc_L_law_944 rfl) (u2_d (u1_5 hc_L_law_944 rfl) (u1_6 hc_L_law_944 rfl) rfl) rfl
theorem dL_law_951 : decode cL_law 951 = .ok (.pop, 1) := o_87 (u1_7 hc_L_law_944 rfl) rfl
theorem dL_law_952 : decode cL_law 952 = .ok (.aload_n 2, 1) := o_44 (u1_8 hc_L_law_944 rfl) rfl
theorem dL_law_953 : decode cL_law 953 = .ok (.invokevirtual 115, 3) := o_182 (u1_9 hc_L_law_944 rfl) (u2_d (u1_10 hc_L_law_944 rfl) (u1_11 hc_L_law_944 rfl) rfl) rfl
theorem dL_law_956 : decode cL_law 956 = .ok (.pop, 1) := o_87 (u1_12 hc_L_law_944 rfl) rfl
theorem dL_law_957 : decode cL_law 957 = .ok (.goto 504, 3) := o_167 (u1_13 hc_L_law_944 rfl) (s2_d (u2_d (u1_14 hc_L_law_944 rfl) (u1_15 hc_L_law_944 rfl) rfl) rfl) rfl
theorem hc_L_law_960 : ((bL cL_law).drop 960).take 18 = [43, 42, 29, 4, 96, 46, 42, 29, 5, 96, 46, 42, 29, 6, 96, 46, 182, 0] := by decide +kernel
theorem dL_law_960 : decode cL_law 960 = .ok (.aload_n 1, 1) := o_43 (u1_0 hc_L_law_960 rfl) rfl
theorem dL_law_961 : decode cL_law 961 = .ok (.aload_n 0, 1) := o_42 (u1_1 hc_L_law_960 rfl) rfl
theorem dL_law_962 : decode cL_law 962 = .ok (.iload_n 3, 1) := o_29 (u1_2 hc_L_law_960 rfl) rfl
theorem dL_law_963 : decode cL_law 963 = .ok (.iconst 1, 1) := o_4 (u1_3 hc_L_law_960 rfl) rfl
theorem dL_law_964 : decode cL_law 964 = .ok (.iadd, 1) := o_96 (u1_4 hc_L_law_960 rfl) rfl
theorem dL_law_965 : decode cL_law 965 = .ok (.iaload, 1) := o_46 (u1_5 hc_L_law_960 rfl) rfl
theorem dL_law_966 : decode cL_law 966 = .ok (.aload_n 0, 1) := o_42 (u1_6 hc_L_law_960 rfl) rfl
theorem dL_law_967 : decode cL_law 967 = .ok (.iload_n 3, 1) := o_29 (u1_7 hc_L_law_960 rfl) rfl
theorem dL_law_968 : decode cL_law 968 = .ok (.iconst 2, 1) := o_5 (u1_8 hc_L_law_960 rfl) rfl
theorem dL_law_969 : decode cL_law 969 = .ok (.iadd, 1) := o_96 (u1_9 hc_L_law_960 rfl) rfl
theorem dL_law_970 : decode cL_law 970 = .ok (.iaload, 1) := o_46 (u1_10 hc_L_law_960 rfl) rfl
theorem dL_law_971 : decode cL_law 971 = .ok (.aload_n 0, 1) := o_42 (u1_11 hc_L_law_960 rfl) rfl
theorem dL_law_972 : decode cL_law 972 = .ok (.iload_n 3, 1) := o_29 (u1_12 hc_L_law_960 rfl) rfl
theorem dL_law_973 : decode cL_law 973 = .ok (.iconst 3, 1) := o_6 (u1_13 hc_L_law_960 rfl) rfl
theorem dL_law_974 : decode cL_law 974 = .ok (.iadd, 1) := o_96 (u1_14 hc_L_law_960 rfl) rfl
theorem dL_law_975 : decode cL_law 975 = .ok (.iaload, 1) := o_46 (u1_15 hc_L_law_960 rfl) rfl
theorem hc_L_law_976 : ((bL cL_law).drop 976).take 18 = [182, 0, 116, 87, 44, 42, 29, 4, 96, 46, 42, 29, 5, 96, 46, 42, 29, 6] := by decide +kernel
theorem dL_law_976 : decode cL_law 976 = .ok (.invokevirtual 116, 3) := o_182 (u1_0 hc_L_law_976 rfl) (u2_d (u1_1 hc_L_law_976 rfl) (u1_2 hc_L_law_976 rfl) rfl) rfl
theorem dL_law_979 : decode cL_law 979 = .ok (.pop, 1) := o_87 (u1_3 hc_L_law_976 rfl) rfl
theorem dL_law_980 : decode cL_law 980 = .ok (.aload_n 2, 1) := o_44 (u1_4 hc_L_law_976 rfl) rfl
theorem dL_law_981 : decode cL_law 981 = .ok (.aload_n 0, 1) := o_42 (u1_5 hc_L_law_976 rfl) rfl
theorem dL_law_982 : decode cL_law 982 = .ok (.iload_n 3, 1) := o_29 (u1_6 hc_L_law_976 rfl) rfl
theorem dL_law_983 : decode cL_law 983 = .ok (.iconst 1, 1) := o_4 (u1_7 hc_L_law_976 rfl) rfl
theorem dL_law_984 : decode cL_law 984 = .ok (.iadd, 1) := o_96 (u1_8 hc_L_law_976 rfl) rfl
theorem dL_law_985 : decode cL_law 985 = .ok (.iaload, 1) := o_46 (u1_9 hc_L_law_976 rfl) rfl
theorem dL_law_986 : decode cL_law 986 = .ok (.aload_n 0, 1) := o_42 (u1_10 hc_L_law_976 rfl) rfl
theorem dL_law_987 : decode cL_law 987 = .ok (.iload_n 3, 1) := o_29 (u1_11 hc_L_law_976 rfl) rfl
theorem dL_law_988 : decode cL_law 988 = .ok (.iconst 2, 1) := o_5 (u1_12 hc_L_law_976 rfl) rfl
theorem dL_law_989 : decode cL_law 989 = .ok (.iadd, 1) := o_96 (u1_13 hc_L_law_976 rfl) rfl
theorem dL_law_990 : decode cL_law 990 = .ok (.iaload, 1) := o_46 (u1_14 hc_L_law_976 rfl) rfl
theorem dL_law_991 : decode cL_law 991 = .ok (.aload_n 0, 1) := o_42 (u1_15 hc_L_law_976 rfl) rfl
theorem hc_L_law_992 : ((bL cL_law).drop 992).take 18 = [29, 6, 96, 46, 182, 0, 119, 87, 167, 1, 205, 43, 42, 29, 4, 96, 46, 42] := by decide +kernel
theorem dL_law_992 : decode cL_law 992 = .ok (.iload_n 3, 1) := o_29 (u1_0 hc_L_law_992 rfl) rfl
theorem dL_law_993 : decode cL_law 993 = .ok (.iconst 3, 1) := o_6 (u1_1 hc_L_law_992 rfl) rfl
theorem dL_law_994 : decode cL_law 994 = .ok (.iadd, 1) := o_96 (u1_2 hc_L_law_992 rfl) rfl
theorem dL_law_995 : decode cL_law 995 = .ok (.iaload, 1) := o_46 (u1_3 hc_L_law_992 rfl) rfl
theorem dL_law_996 : decode cL_law 996 = .ok (.invokevirtual 119, 3) := o_182 (u1_4 hc_L_law_992 rfl) (u2_d (u1_5 hc_L_law_992 rfl) (u1_6 hc_L_law_992 rfl) rfl) rfl
theorem dL_law_999 : decode cL_law 999 = .ok (.pop, 1) := o_87 (u1_7 hc_L_law_992 rfl) rfl
theorem dL_law_1000 : decode cL_law 1000 = .ok (.goto 461, 3) := o_167 (u1_8 hc_L_law_992 rfl) (s2_d (u2_d (u1_9 hc_L_law_992 rfl) (u1_10 hc_L_law_992 rfl) rfl) rfl) rfl
theorem dL_law_1003 : decode cL_law 1003 = .ok (.aload_n 1, 1) := o_43 (u1_11 hc_L_law_992 rfl) rfl
theorem dL_law_1004 : decode cL_law 1004 = .ok (.aload_n 0, 1) := o_42 (u1_12 hc_L_law_992 rfl) rfl
theorem dL_law_1005 : decode cL_law 1005 = .ok (.iload_n 3, 1) := o_29 (u1_13 hc_L_law_992 rfl) rfl
theorem dL_law_1006 : decode cL_law 1006 = .ok (.iconst 1, 1) := o_4 (u1_14 hc_L_law_992 rfl) rfl
theorem dL_law_1007 : decode cL_law 1007 = .ok (.iadd, 1) := o_96 (u1_15 hc_L_law_992 rfl) rfl
theorem hc_L_law_1008 : ((bL cL_law).drop 1008).take 18 = [46, 42, 29, 5, 96, 46, 182, 0, 120, 87, 44, 42, 29, 4, 96, 46, 42, 29] := by decide +kernel
theorem dL_law_1008 : decode cL_law 1008 = .ok (.iaload, 1) := o_46 (u1_0 hc_L_law_1008 rfl) rfl
theorem dL_law_1009 : decode cL_law 1009 = .ok (.aload_n 0, 1) := o_42 (u1_1 hc_L_law_1008 rfl) rfl
theorem dL_law_1010 : decode cL_law 1010 = .ok (.iload_n 3, 1) := o_29 (u1_2 hc_L_law_1008 rfl) rfl
theorem dL_law_1011 : decode cL_law 1011 = .ok (.iconst 2, 1) := o_5 (u1_3 hc_L_law_1008 rfl) rfl
theorem dL_law_1012 : decode cL_law 1012 = .ok (.iadd, 1) := o_96 (u1_4 hc_L_law_1008 rfl) rfl
theorem dL_law_1013 : decode cL_law 1013 = .ok (.iaload, 1) := o_46 (u1_5 hc_L_law_1008 rfl) rfl
theorem dL_law_1014 : decode cL_law 1014 = .ok (.invokevirtual 120, 3) := o_182 (u1_6 hc_L_law_1008 rfl) (u2_d (u1_7 hc_L_law_1008 rfl) (u1_8 hc_L_law_1008 rfl) rfl) rfl
theorem dL_law_1017 : decode cL_law 1017 = .ok (.pop, 1) := o_87 (u1_9 hc_L_law_1008 rfl) rfl
theorem dL_law_1018 : decode cL_law 1018 = .ok (.aload_n 2, 1) := o_44 (u1_10 hc_L_law_1008 rfl) rfl
theorem dL_law_1019 : decode cL_law 1019 = .ok (.aload_n 0, 1) := o_42 (u1_11 hc_L_law_1008 rfl) rfl
theorem dL_law_1020 : decode cL_law 1020 = .ok (.iload_n 3, 1) := o_29 (u1_12 hc_L_law_1008 rfl) rfl
theorem dL_law_1021 : decode cL_law 1021 = .ok (.iconst 1, 1) := o_4 (u1_13 hc_L_law_1008 rfl) rfl
theorem dL_law_1022 : decode cL_law 1022 = .ok (.iadd, 1) := o_96 (u1_14 hc_L_law_1008 rfl) rfl
theorem dL_law_1023 : decode cL_law 1023 = .ok (.iaload, 1) := o_46 (u1_15 hc_L_law_1008 rfl) rfl
theorem hc_L_law_1024 : ((bL cL_law).drop 1024).take 18 = [42, 29, 5, 96, 46, 182, 0, 123, 87, 167, 1, 172, 43, 42, 29, 4, 96, 46] := by decide +kernel
theorem dL_law_1024 : decode cL_law 1024 = .ok (.aload_n 0, 1) := o_42 (u1_0 hc_L_law_1024 rfl) rfl
theorem dL_law_1025 : decode cL_law 1025 = .ok (.iload_n 3, 1) := o_29 (u1_1 hc_L_law_1024 rfl) rfl
theorem dL_law_1026 : decode cL_law 1026 = .ok (.iconst 2, 1) := o_5 (u1_2 hc_L_law_1024 rfl) rfl
theorem dL_law_1027 : decode cL_law 1027 = .ok (.iadd, 1) := o_96 (u1_3 hc_L_law_1024 rfl) rfl
theorem dL_law_1028 : decode cL_law 1028 = .ok (.iaload, 1) := o_46 (u1_4 hc_L_law_1024 rfl) rfl
theorem dL_law_1029 : decode cL_law 1029 = .ok (.invokevirtual 123, 3) := o_182 (u1_5 hc_L_law_1024 rfl) (u2_d (u1_6 hc_L_law_1024 rfl) (u1_7 hc_L_law_1024 rfl) rfl) rfl
theorem dL_law_1032 : decode cL_law 1032 = .ok (.pop, 1) := o_87 (u1_8 hc_L_law_1024 rfl) rfl
theorem dL_law_1033 : decode cL_law 1033 = .ok (.goto 428, 3) := o_167 (u1_9 hc_L_law_1024 rfl) (s2_d (u2_d (u1_10 hc_L_law_1024 rfl) (u1_11 hc_L_law_1024 rfl) rfl) rfl) rfl
theorem dL_law_1036 : decode cL_law 1036 = .ok (.aload_n 1, 1) := o_43 (u1_12 hc_L_law_1024 rfl) rfl
theorem dL_law_1037 : decode cL_law 1037 = .ok (.aload_n 0, 1) := o_42 (u1_13 hc_L_law_1024 rfl) rfl
theorem dL_law_1038 : decode cL_law 1038 = .ok (.iload_n 3, 1) := o_29 (u1_14 hc_L_law_1024 rfl) rfl
theorem dL_law_1039 : decode cL_law 1039 = .ok (.iconst 1, 1) := o_4 (u1_15 hc_L_law_1024 rfl) rfl
theorem hc_L_law_1040 : ((bL cL_law).drop 1040).take 18 = [96, 46, 42, 29, 5, 96, 46, 42, 29, 6, 96, 46, 182, 0, 124, 87, 44, 42] := by decide +kernel
theorem dL_law_1040 : decode cL_law 1040 = .ok (.iadd, 1) := o_96 (u1_0 hc_L_law_1040 rfl) rfl
theorem dL_law_1041 : decode cL_law 1041 = .ok (.iaload, 1) := o_46 (u1_1 hc_L_law_1040 rfl) rfl
theorem dL_law_1042 : decode cL_law 1042 = .ok (.aload_n 0, 1) := o_42 (u1_2 hc_L_law_1040 rfl) rfl
theorem dL_law_1043 : decode cL_law 1043 = .ok (.iload_n 3, 1) := o_29 (u1_3 hc_L_law_1040 rfl) rfl
theorem dL_law_1044 : decode cL_law 1044 = .ok (.iconst 2, 1) := o_5 (u1_4 hc_L_law_1040 rfl) rfl
theorem dL_law_1045 : decode cL_law 1045 = .ok (.iadd, 1) := o_96 (u1_5 hc_L_law_1040 rfl) rfl
theorem dL_law_1046 : decode cL_law 1046 = .ok (.iaload, 1) := o_46 (u1_6 hc_L_law_1040 rfl) rfl
theorem dL_law_1047 : decode cL_law 1047 = .ok (.aload_n 0, 1) := o_42 (u1_7 hc_L_law_1040 rfl) rfl
theorem dL_law_1048 : decode cL_law 1048 = .ok (.iload_n 3, 1) := o_29 (u1_8 hc_L_law_1040 rfl) rfl
theorem dL_law_1049 : decode cL_law 1049 = .ok (.iconst 3, 1) := o_6 (u1_9 hc_L_law_1040 rfl) rfl
theorem dL_law_1050 : decode cL_law 1050 = .ok (.iadd, 1) := o_96 (u1_10 hc_L_law_1040 rfl) rfl
theorem dL_law_1051 : decode cL_law 1051 = .ok (.iaload, 1) := o_46 (u1_11 hc_L_law_1040 rfl) rfl
theorem dL_law_1052 : decode cL_law 1052 = .ok (.invokevirtual 124, 3) := o_182 (u1_12 hc_L_law_1040 rfl) (u2_d (u1_13 hc_L_law_1040 rfl) (u1_14 hc_L_law_1040 rfl) rfl) rfl
theorem dL_law_1055 : decode cL_law 1055 = .ok (.pop, 1) := o_87 (u1_15 hc_L_law_1040 rfl) rfl
theorem hc_L_law_1056 : ((bL cL_law).drop 1056).take 18 = [44, 42, 29, 4, 96, 46, 42, 29, 5, 96, 46, 42, 29, 6, 96, 46, 182, 0] := by decide +kernel
theorem dL_law_1056 : decode cL_law 1056 = .ok (.aload_n 2, 1) := o_44 (u1_0 hc_L_law_1056 rfl) rfl
theorem dL_law_1057 : decode cL_law 1057 = .ok (.aload_n 0, 1) := o_42 (u1_1 hc_L_law_1056 rfl) rfl
theorem dL_law_1058 : decode cL_law 1058 = .ok (.iload_n 3, 1) := o_29 (u1_2 hc_L_law_1056 rfl) rfl
theorem dL_law_1059 : decode cL_law 1059 = .ok (.iconst 1, 1) := o_4 (u1_3 hc_L_law_1056 rfl) rfl
theorem dL_law_1060 : decode cL_law 1060 = .ok (.iadd, 1) := o_96 (u1_4 hc_L_law_1056 rfl) rfl
theorem dL_law_1061 : decode cL_law 1061 = .ok (.iaload, 1) := o_46 (u1_5 hc_L_law_1056 rfl) rfl
theorem dL_law_1062 : decode cL_law 1062 = .ok (.aload_n 0, 1) := o_42 (u1_6 hc_L_law_1056 rfl) rfl
theorem dL_law_1063 : decode cL_law 1063 = .ok (.iload_n 3, 1) := o_29 (u1_7 hc_L_law_1056 rfl) rfl
theorem dL_law_1064 : decode cL_law 1064 = .ok (.iconst 2, 1) := o_5 (u1_8 hc_L_law_1056 rfl) rfl
theorem dL_law_1065 : decode cL_law 1065 = .ok (.iadd, 1) := o_96 (u1_9 hc_L_law_1056 rfl) rfl
theorem dL_law_1066 : decode cL_law 1066 = .ok (.iaload, 1) := o_46 (u1_10 hc_L_law_1056 rfl) rfl
theorem dL_law_1067 : decode cL_law 1067 = .ok (.aload_n 0, 1) := o_42 (u1_11 hc_L_law_1056 rfl) rfl
theorem dL_law_1068 : decode cL_law 1068 = .ok (.iload_n 3, 1) := o_29 (u1_12 hc_L_law_1056 rfl) rfl
theorem dL_law_1069 : decode cL_law 1069 = .ok (.iconst 3, 1) := o_6 (u1_13 hc_L_law_1056 rfl) rfl
theorem dL_law_1070 : decode cL_law 1070 = .ok (.iadd, 1) := o_96 (u1_14 hc_L_law_1056 rfl) rfl
theorem dL_law_1071 : decode cL_law 1071 = .ok (.iaload, 1) := o_46 (u1_15 hc_L_law_1056 rfl) rfl
theorem hc_L_law_1072 : ((bL cL_law).drop 1072).take 18 = [182, 0, 127, 87, 167, 1, 129, 43, 42, 29, 4, 96, 46, 42, 29, 5, 96, 46] := by decide +kernel
theorem dL_law_1072 : decode cL_law 1072 = .ok (.invokevirtual 127, 3) := o_182 (u1_0 hc_L_law_1072 rfl) (u2_d (u1_1 hc_L_law_1072 rfl) (u1_2 hc_L_law_1072 rfl) rfl) rfl
theorem dL_law_1075 : decode cL_law 1075 = .ok (.pop, 1) := o_87 (u1_3 hc_L_law_1072 rfl) rfl
theorem dL_law_1076 : decode cL_law 1076 = .ok (.goto 385, 3) := o_167 (u1_4 hc_L_law_1072 rfl) (s2_d (u2_d (u1_5 hc_L_law_1072 rfl) (u1_6 hc_L_law_1072 rfl) rfl) rfl) rfl
theorem dL_law_1079 : decode cL_law 1079 = .ok (.aload_n 1, 1) := o_43 (u1_7 hc_L_law_1072 rfl) rfl
theorem dL_law_1080 : decode cL_law 1080 = .ok (.aload_n 0, 1) := o_42 (u1_8 hc_L_law_1072 rfl) rfl
theorem dL_law_1081 : decode cL_law 1081 = .ok (.iload_n 3, 1) := o_29 (u1_9 hc_L_law_1072 rfl) rfl
theorem dL_law_1082 : decode cL_law 1082 = .ok (.iconst 1, 1) := o_4 (u1_10 hc_L_law_1072 rfl) rfl
theorem dL_law_1083 : decode cL_law 1083 = .ok (.iadd, 1) := o_96 (u1_11 hc_L_law_1072 rfl) rfl
theorem dL_law_1084 : decode cL_law 1084 = .ok (.iaload, 1) := o_46 (u1_12 hc_L_law_1072 rfl) rfl
theorem dL_law_1085 : decode cL_law 1085 = .ok (.aload_n 0, 1) := o_42 (u1_13 hc_L_law_1072 rfl) rfl
theorem dL_law_1086 : decode cL_law 1086 = .ok (.iload_n 3, 1) := o_29 (u1_14 hc_L_law_1072 rfl) rfl
theorem dL_law_1087 : decode cL_law 1087 = .ok (.iconst 2, 1) := o_5 (u1_15 hc_L_law_1072 rfl) rfl
theorem hc_L_law_1088 : ((bL cL_law).drop 1088).take 18 = [96, 46, 42, 29, 6, 96, 46, 42, 29, 7, 96, 46, 133, 16, 32, 121, 42, 29] := by decide +kernel
theorem dL_law_1088 : decode cL_law 1088 = .ok (.iadd, 1) := o_96 (u1_0 hc_L_law_1088 rfl) rfl
theorem dL_law_1089 : decode cL_law 1089 = .ok (.iaload, 1) := o_46 (u1_1 hc_L_law_1088 rfl) rfl
theorem dL_law_1090 : decode cL_law 1090 = .ok (.aload_n 0, 1) := o_42 (u1_2 hc_L_law_1088 rfl) rfl
theorem dL_law_1091 : decode cL_law 1091 = .ok (.iload_n 3, 1) := o_29 (u1_3 hc_L_law_1088 rfl) rfl
theorem dL_law_1092 : decode cL_law 1092 = .ok (.iconst 3, 1) := o_6 (u1_4 hc_L_law_1088 rfl) rfl
theorem dL_law_1093 : decode cL_law 1093 = .ok (.iadd, 1) := o_96 (u1_5 hc_L_law_1088 rfl) rfl
theorem dL_law_1094 : decode cL_law 1094 = .ok (.iaload, 1) := o_46 (u1_6 hc_L_law_1088 rfl) rfl
theorem dL_law_1095 : decode cL_law 1095 = .ok (.aload_n 0, 1) := o_42 (u1_7 hc_L_law_1088 rfl) rfl
theorem dL_law_1096 : decode cL_law 1096 = .ok (.iload_n 3, 1) := o_29 (u1_8 hc_L_law_1088 rfl) rfl
theorem dL_law_1097 : decode cL_law 1097 = .ok (.iconst 4, 1) := o_7 (u1_9 hc_L_law_1088 rfl) rfl
theorem dL_law_1098 : decode cL_law 1098 = .ok (.iadd, 1) := o_96 (u1_10 hc_L_law_1088 rfl) rfl
theorem dL_law_1099 : decode cL_law 1099 = .ok (.iaload, 1) := o_46 (u1_11 hc_L_law_1088 rfl) rfl
theorem dL_law_1100 : decode cL_law 1100 = .ok (.i2l, 1) := o_133 (u1_12 hc_L_law_1088 rfl) rfl
theorem dL_law_1101 : decode cL_law 1101 = .ok (.bipush 32, 2) := o_16 (u1_13 hc_L_law_1088 rfl) (s1_d (u1_14 hc_L_law_1088 rfl) rfl) rfl
theorem dL_law_1103 : decode cL_law 1103 = .ok (.lshl, 1) := o_121 (u1_15 hc_L_law_1088 rfl) rfl
theorem hc_L_law_1104 : ((bL cL_law).drop 1104).take 18 = [42, 29, 8, 96, 46, 133, 20, 0, 128, 127, 129, 182, 0, 130, 87, 44, 42, 29] := by decide +kernel
theorem dL_law_1104 : decode cL_law 1104 = .ok (.aload_n 0, 1) := o_42 (u1_0 hc_L_law_1104 rfl) rfl
theorem dL_law_1105 : decode cL_law 1105 = .ok (.iload_n 3, 1) := o_29 (u1_1 hc_L_law_1104 rfl) rfl
theorem dL_law_1106 : decode cL_law 1106 = .ok (.iconst 5, 1) := o_8 (u1_2 hc_L_law_1104 rfl) rfl
theorem dL_law_1107 : decode cL_law 1107 = .ok (.iadd, 1) := o_96 (u1_3 hc_L_law_1104 rfl) rfl
theorem dL_law_1108 : decode cL_law 1108 = .ok (.iaload, 1) := o_46 (u1_4 hc_L_law_1104 rfl) rfl
theorem dL_law_1109 : decode cL_law 1109 = .ok (.i2l, 1) := o_133 (u1_5 hc_L_law_1104 rfl) rfl
theorem dL_law_1110 : decode cL_law 1110 = .ok (.ldc2_w 128, 3) := o_20 (u1_6 hc_L_law_1104 rfl) (u2_d (u1_7 hc_L_law_1104 rfl) (u1_8 hc_L_law_1104 rfl) rfl) rfl
theorem dL_law_1113 : decode cL_law 1113 = .ok (.land, 1) := o_127 (u1_9 hc_L_law_1104 rfl) rfl
theorem dL_law_1114 : decode cL_law 1114 = .ok (.lor, 1) := o_129 (u1_10 hc_L_law_1104 rfl) rfl
theorem dL_law_1115 : decode cL_law 1115 = .ok (.invokevirtual 130, 3) := o_182 (u1_11 hc_L_law_1104 rfl) (u2_d (u1_12 hc_L_law_1104 rfl) (u1_13 hc_L_law_1104 rfl) rfl) rfl
theorem dL_law_1118 : decode cL_law 1118 = .ok (.pop, 1) := o_87 (u1_14 hc_L_law_1104 rfl) rfl
theorem dL_law_1119 : decode cL_law 1119 = .ok (.aload_n 2, 1) := o_44 (u1_15 hc_L_law_1104 rfl) rfl
theorem hc_L_law_1120 : ((bL cL_law).drop 1120).take 18 = [42, 29, 4, 96, 46, 42, 29, 5, 96, 46, 42, 29, 6, 96, 46, 42, 29, 7] := by decide +kernel
theorem dL_law_1120 : decode cL_law 1120 = .ok (.aload_n 0, 1) := o_42 (u1_0 hc_L_law_1120 rfl) rfl
theorem dL_law_1121 : decode cL_law 1121 = .ok (.iload_n 3, 1) := o_29 (u1_1 hc_L_law_1120 rfl) rfl
theorem dL_law_1122 : decode cL_law 1122 = .ok (.iconst 1, 1) := o_4 (u1_2 hc_L_law_1120 rfl) rfl
theorem dL_law_1123 : decode cL_law 1123 = .ok (.iadd, 1) := o_96 (u1_3 hc_L_law_1120 rfl) rfl
theorem dL_law_1124 : decode cL_law 1124 = .ok (.iaload, 1) := o_46 (u1_4 hc_L_law_1120 rfl) rfl
theorem dL_law_1125 : decode cL_law 1125 = .ok (.aload_n 0, 1) := o_42 (u1_5 hc_L_law_1120 rfl) rfl
theorem dL_law_1126 : decode cL_law 1126 = .ok (.iload_n 3, 1) := o_29 (u1_6 hc_L_law_1120 rfl) rfl
theorem dL_law_1127 : decode cL_law 1127 = .ok (.iconst 2, 1) := o_5 (u1_7 hc_L_law_1120 rfl) rfl
theorem dL_law_1128 : decode cL_law 1128 = .ok (.iadd, 1) := o_96 (u1_8 hc_L_law_1120 rfl) rfl
theorem dL_law_1129 : decode cL_law 1129 = .ok (.iaload, 1) := o_46 (u1_9 hc_L_law_1120 rfl) rfl
theorem dL_law_1130 : decode cL_law 1130 = .ok (.aload_n 0, 1) := o_42 (u1_10 hc_L_law_1120 rfl) rfl
theorem dL_law_1131 : decode cL_law 1131 = .ok (.iload_n 3, 1) := o_29 (u1_11 hc_L_law_1120 rfl) rfl
theorem dL_law_1132 : decode cL_law 1132 = .ok (.iconst 3, 1) := o_6 (u1_12 hc_L_law_1120 rfl) rfl
theorem dL_law_1133 : decode cL_law 1133 = .ok (.iadd, 1) := o_96 (u1_13 hc_L_law_1120 rfl) rfl
theorem dL_law_1134 : decode cL_law 1134 = .ok (.iaload, 1) := o_46 (u1_14 hc_L_law_1120 rfl) rfl
theorem dL_law_1135 : decode cL_law 1135 = .ok (.aload_n 0, 1) := o_42 (u1_15 hc_L_law_1120 rfl) rfl
theorem hc_L_law_1136 : ((bL cL_law).drop 1136).take 18 = [29, 7, 96, 46, 133, 16, 32, 121, 42, 29, 8, 96, 46, 133, 20, 0, 128, 127] := by decide +kernel
theorem dL_law_1136 : decode cL_law 1136 = .ok (.iload_n 3, 1) := o_29 (u1_0 hc_L_law_1136 rfl) rfl
theorem dL_law_1137 : decode cL_law 1137 = .ok (.iconst 4, 1) := o_7 (u1_1 hc_L_law_1136 rfl) rfl
theorem dL_law_1138 : decode cL_law 1138 = .ok (.iadd, 1) := o_96 (u1_2 hc_L_law_1136 rfl) rfl
theorem dL_law_1139 : decode cL_law 1139 = .ok (.iaload, 1) := o_46 (u1_3 hc_L_law_1136 rfl) rfl
theorem dL_law_1140 : decode cL_law 1140 = .ok (.i2l, 1) := o_133 (u1_4 hc_L_law_1136 rfl) rfl
theorem dL_law_1141 : decode cL_law 1141 = .ok (.bipush 32, 2) := o_16 (u1_5 hc_L_law_1136 rfl) (s1_d (u1_6 hc_L_law_1136 rfl) rfl) rfl
theorem dL_law_1143 : decode cL_law 1143 = .ok (.lshl, 1) := o_121 (u1_7 hc_L_law_1136 rfl) rfl
theorem dL_law_1144 : decode cL_law 1144 = .ok (.aload_n 0, 1) := o_42 (u1_8 hc_L_law_1136 rfl) rfl
theorem dL_law_1145 : decode cL_law 1145 = .ok (.iload_n 3, 1) := o_29 (u1_9 hc_L_law_1136 rfl) rfl
theorem dL_law_1146 : decode cL_law 1146 = .ok (.iconst 5, 1) := o_8 (u1_10 hc_L_law_1136 rfl) rfl
theorem dL_law_1147 : decode cL_law 1147 = .ok (.iadd, 1) := o_96 (u1_11 hc_L_law_1136 rfl) rfl
theorem dL_law_1148 : decode cL_law 1148 = .ok (.iaload, 1) := o_46 (u1_12 hc_L_law_1136 rfl) rfl
theorem dL_law_1149 : decode cL_law 1149 = .ok (.i2l, 1) := o_133 (u1_13 hc_L_law_1136 rfl) rfl
theorem dL_law_1150 : decode cL_law 1150 = .ok (.ldc2_w 128, 3) := o_20 (u1_14 hc_L_law_1136 rfl) (u2_d (u1_15 hc_L_law_1136 rfl) (u1_16 hc_L_law_1136 rfl) rfl) rfl
theorem hc_L_law_1152 : ((bL cL_law).drop 1152).take 18 = [128, 127, 129, 182, 0, 134, 87, 167, 1, 46, 43, 42, 29, 4, 96, 46, 42, 29] := by decide +kernel
theorem dL_law_1153 : decode cL_law 1153 = .ok (.land, 1) := o_127 (u1_1 hc_L_law_1152 rfl) rfl
theorem dL_law_1154 : decode cL_law 1154 = .ok (.lor, 1) := o_129 (u1_2 hc_L_law_1152 rfl) rfl
theorem dL_law_1155 : decode cL_law 1155 = .ok (.invokevirtual 134, 3) := o_182 (u1_3 hc_L_law_1152 rfl) (u2_d (u1_4 hc_L_law_1152 rfl) (u1_5 hc_L_law_1152 rfl) rfl) rfl
theorem dL_law_1158 : decode cL_law 1158 = .ok (.pop, 1) := o_87 (u1_6 hc_L_law_1152 rfl) rfl
theorem dL_law_1159 : decode cL_law 1159 = .ok (.goto 302, 3) := o_167 (u1_7 hc_L_law_1152 rfl) (s2_d (u2_d (u1_8 hc_L_law_1152 rfl) (u1_9 hc_L_law_1152 rfl) rfl) rfl) rfl
theorem dL_law_1162 : decode cL_law 1162 = .ok (.aload_n 1, 1) := o_43 (u1_10 hc_L_law_1152 rfl) rfl
theorem dL_law_1163 : decode cL_law 1163 = .ok (.aload_n 0, 1) := o_42 (u1_11 hc_L_law_1152 rfl) rfl
theorem dL_law_1164 : decode cL_law 1164 = .ok (.iload_n 3, 1) := o_29 (u1_12 hc_L_law_1152 rfl) rfl
theorem dL_law_1165 : decode cL_law 1165 = .ok (.iconst 1, 1) := o_4 (u1_13 hc_L_law_1152 rfl) rfl
theorem dL_law_1166 : decode cL_law 1166 = .ok (.iadd, 1) := o_96 (u1_14 hc_L_law_1152 rfl) rfl
theorem dL_law_1167 : decode cL_law 1167 = .ok (.iaload, 1) := o_46 (u1_15 hc_L_law_1152 rfl) rfl
theorem hc_L_law_1168 : ((bL cL_law).drop 1168).take 18 = [42, 29, 5, 96, 46, 42, 29, 6, 96, 46, 182, 0, 135, 87, 44, 42, 29, 4] := by decide +kernel
theorem dL_law_1168 : decode cL_law 1168 = .ok (.aload_n 0, 1) := o_42 (u1_0 hc_L_law_1168 rfl) rfl
theorem dL_law_1169 : decode cL_law 1169 = .ok (.iload_n 3, 1) := o_29 (u1_1 hc_L_law_1168 rfl) rfl
theorem dL_law_1170 : decode cL_law 1170 = .ok (.iconst 2, 1) := o_5 (u1_2 hc_L_law_1168 rfl) rfl
theorem dL_law_1171 : decode cL_law 1171 = .ok (.iadd, 1) := o_96 (u1_3 hc_L_law_1168 rfl) rfl
theorem dL_law_1172 : decode cL_law 1172 = .ok (.iaload, 1) := o_46 (u1_4 hc_L_law_1168 rfl) rfl
theorem dL_law_1173 : decode cL_law 1173 = .ok (.aload_n 0, 1) := o_42 (u1_5 hc_L_law_1168 rfl) rfl
theorem dL_law_1174 : decode cL_law 1174 = .ok (.iload_n 3, 1) := o_29 (u1_6 hc_L_law_1168 rfl) rfl
theorem dL_law_1175 : decode cL_law 1175 = .ok (.iconst 3, 1) := o_6 (u1_7 hc_L_law_1168 rfl) rfl
theorem dL_law_1176 : decode cL_law 1176 = .ok (.iadd, 1) := o_96 (u1_8 hc_L_law_1168 rfl) rfl
theorem dL_law_1177 : decode cL_law 1177 = .ok (.iaload, 1) := o_46 (u1_9 hc_L_law_1168 rfl) rfl
theorem dL_law_1178 : decode cL_law 1178 = .ok (.invokevirtual 135, 3) := o_182 (u1_10 hc_L_law_1168 rfl) (u2_d (u1_11 hc_L_law_1168 rfl) (u1_12 hc_L_law_1168 rfl) rfl) rfl
theorem dL_law_1181 : decode cL_law 1181 = .ok (.pop, 1) := o_87 (u1_13 hc_L_law_1168 rfl) rfl
theorem dL_law_1182 : decode cL_law 1182 = .ok (.aload_n 2, 1) := o_44 (u1_14 hc_L_law_1168 rfl) rfl
theorem dL_law_1183 : decode cL_law 1183 = .ok (.aload_n 0, 1) := o_42 (u1_15 hc_L_law_1168 rfl) rfl
