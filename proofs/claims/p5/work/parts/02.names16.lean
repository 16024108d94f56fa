theorem dX12_copy_202 : decode cX12_copy 202 = .ok (.if_icmp .ge 32, 3) := by decide +kernel
theorem dX12_copy_205 : decode cX12_copy 205 = .ok (.aload_n 0, 1) := by decide +kernel
theorem dX12_copy_206 : decode cX12_copy 206 = .ok (.getfield 132, 3) := by decide +kernel
theorem dX12_copy_209 : decode cX12_copy 209 = .ok (.bipush 12, 2) := by decide +kernel
theorem dX12_copy_211 : decode cX12_copy 211 = .ok (.iload 4, 2) := by decide +kernel
theorem dX12_copy_213 : decode cX12_copy 213 = .ok (.imul, 1) := by decide +kernel
theorem dX12_copy_214 : decode cX12_copy 214 = .ok (.iload 5, 2) := by decide +kernel
theorem dX12_copy_216 : decode cX12_copy 216 = .ok (.iadd, 1) := by decide +kernel
theorem dX12_copy_217 : decode cX12_copy 217 = .ok (.iload 7, 2) := by decide +kernel
theorem dX12_copy_219 : decode cX12_copy 219 = .ok (.iadd, 1) := by decide +kernel
theorem dX12_copy_220 : decode cX12_copy 220 = .ok (.aload_n 0, 1) := by decide +kernel
theorem dX12_copy_221 : decode cX12_copy 221 = .ok (.getfield 148, 3) := by decide +kernel
theorem dX12_copy_224 : decode cX12_copy 224 = .ok (.iload 7, 2) := by decide +kernel
theorem dX12_copy_226 : decode cX12_copy 226 = .ok (.laload, 1) := by decide +kernel
theorem dX12_copy_227 : decode cX12_copy 227 = .ok (.lastore, 1) := by decide +kernel
theorem dX12_copy_228 : decode cX12_copy 228 = .ok (.iinc 7 1, 3) := by decide +kernel
theorem dX12_copy_231 : decode cX12_copy 231 = .ok (.goto (-33), 3) := by decide +kernel
theorem dX12_copy_234 : decode cX12_copy 234 = .ok (.iconst 1, 1) := by decide +kernel
theorem dX12_copy_235 : decode cX12_copy 235 = .ok (.ireturn, 1) := by decide +kernel
theorem dX12_cast_0 : decode cX12_cast 0 = .ok (.iload_n 1, 1) := by decide +kernel
theorem dX12_cast_1 : decode cX12_cast 1 = .ok (.i2l, 1) := by decide +kernel
theorem dX12_cast_2 : decode cX12_cast 2 = .ok (.lconst 1, 1) := by decide +kernel
theorem dX12_cast_3 : decode cX12_cast 3 = .ok (.ldc2_w 170, 3) := by decide +kernel
theorem dX12_cast_6 : decode cX12_cast 6 = .ok (.invokestatic 166, 3) := by decide +kernel
theorem dX12_cast_9 : decode cX12_cast 9 = .ok (.ifCond .eq 9, 3) := by decide +kernel
theorem dX12_cast_12 : decode cX12_cast 12 = .ok (.iload_n 2, 1) := by decide +kernel
theorem dX12_cast_13 : decode cX12_cast 13 = .ok (.bipush 12, 2) := by decide +kernel
theorem dX12_cast_15 : decode cX12_cast 15 = .ok (.if_icmp .le 5, 3) := by decide +kernel
theorem dX12_cast_18 : decode cX12_cast 18 = .ok (.iconst (-1), 1) := by decide +kernel
theorem dX12_cast_19 : decode cX12_cast 19 = .ok (.ireturn, 1) := by decide +kernel
theorem dX12_cast_20 : decode cX12_cast 20 = .ok (.aload_n 0, 1) := by decide +kernel
theorem dX12_cast_21 : decode cX12_cast 21 = .ok (.getfield 450, 3) := by decide +kernel
theorem dX12_cast_24 : decode cX12_cast 24 = .ok (.bipush 10, 2) := by decide +kernel
theorem dX12_cast_26 : decode cX12_cast 26 = .ok (.if_icmp .ne 6, 3) := by decide +kernel
theorem dX12_cast_29 : decode cX12_cast 29 = .ok (.bipush (-2), 2) := by decide +kernel
theorem dX12_cast_31 : decode cX12_cast 31 = .ok (.ireturn, 1) := by decide +kernel
theorem dX12_cast_32 : decode cX12_cast 32 = .ok (.iload_n 2, 1) := by decide +kernel
theorem dX12_cast_33 : decode cX12_cast 33 = .ok (.ifCond .ge 9, 3) := by decide +kernel
theorem dX12_cast_36 : decode cX12_cast 36 = .ok (.aload_n 0, 1) := by decide +kernel
theorem dX12_cast_37 : decode cX12_cast 37 = .ok (.iconst 5, 1) := by decide +kernel
theorem dX12_cast_38 : decode cX12_cast 38 = .ok (.invokevirtual 233, 3) := by decide +kernel
theorem dX12_cast_41 : decode cX12_cast 41 = .ok (.ireturn, 1) := by decide +kernel
theorem dX12_cast_42 : decode cX12_cast 42 = .ok (.aload_n 0, 1) := by decide +kernel
theorem dX12_cast_43 : decode cX12_cast 43 = .ok (.getfield 139, 3) := by decide +kernel
theorem dX12_cast_46 : decode cX12_cast 46 = .ok (.aload_n 0, 1) := by decide +kernel
theorem dX12_cast_47 : decode cX12_cast 47 = .ok (.getfield 450, 3) := by decide +kernel
theorem dX12_cast_50 : decode cX12_cast 50 = .ok (.iload_n 1, 1) := by decide +kernel
theorem dX12_cast_51 : decode cX12_cast 51 = .ok (.iastore, 1) := by decide +kernel
theorem dX12_cast_52 : decode cX12_cast 52 = .ok (.aload_n 0, 1) := by decide +kernel
theorem dX12_cast_53 : decode cX12_cast 53 = .ok (.getfield 142, 3) := by decide +kernel
theorem dX12_cast_56 : decode cX12_cast 56 = .ok (.aload_n 0, 1) := by decide +kernel
theorem dX12_cast_57 : decode cX12_cast 57 = .ok (.getfield 450, 3) := by decide +kernel
theorem dX12_cast_60 : decode cX12_cast 60 = .ok (.iload_n 2, 1) := by decide +kernel
theorem dX12_cast_61 : decode cX12_cast 61 = .ok (.iastore, 1) := by decide +kernel
theorem dX12_cast_62 : decode cX12_cast 62 = .ok (.iconst 0, 1) := by decide +kernel
theorem dX12_cast_63 : decode cX12_cast 63 = .ok (.istore_n 3, 1) := by decide +kernel
theorem dX12_cast_64 : decode cX12_cast 64 = .ok (.iload_n 3, 1) := by decide +kernel
theorem dX12_cast_65 : decode cX12_cast 65 = .ok (.bipush 12, 2) := by decide +kernel
theorem dX12_cast_67 : decode cX12_cast 67 = .ok (.if_icmp .ge 25, 3) := by decide +kernel
theorem dX12_cast_70 : decode cX12_cast 70 = .ok (.aload_n 0, 1) := by decide +kernel
theorem dX12_cast_71 : decode cX12_cast 71 = .ok (.getfield 145, 3) := by decide +kernel
theorem dX12_cast_74 : decode cX12_cast 74 = .ok (.bipush 12, 2) := by decide +kernel
theorem dX12_cast_76 : decode cX12_cast 76 = .ok (.aload_n 0, 1) := by decide +kernel
theorem dX12_cast_77 : decode cX12_cast 77 = .ok (.getfield 450, 3) := by decide +kernel
theorem dX12_cast_80 : decode cX12_cast 80 = .ok (.imul, 1) := by decide +kernel
theorem dX12_cast_81 : decode cX12_cast 81 = .ok (.iload_n 3, 1) := by decide +kernel
theorem dX12_cast_82 : decode cX12_cast 82 = .ok (.iadd, 1) := by decide +kernel
theorem dX12_cast_83 : decode cX12_cast 83 = .ok (.bipush (-9), 2) := by decide +kernel
theorem dX12_cast_85 : decode cX12_cast 85 = .ok (.iastore, 1) := by decide +kernel
theorem dX12_cast_86 : decode cX12_cast 86 = .ok (.iinc 3 1, 3) := by decide +kernel
theorem dX12_cast_89 : decode cX12_cast 89 = .ok (.goto (-25), 3) := by decide +kernel
theorem dX12_cast_92 : decode cX12_cast 92 = .ok (.aload_n 0, 1) := by decide +kernel
theorem dX12_cast_93 : decode cX12_cast 93 = .ok (.dup, 1) := by decide +kernel
theorem dX12_cast_94 : decode cX12_cast 94 = .ok (.getfield 450, 3) := by decide +kernel
theorem dX12_cast_97 : decode cX12_cast 97 = .ok (.iconst 1, 1) := by decide +kernel
theorem dX12_cast_98 : decode cX12_cast 98 = .ok (.iadd, 1) := by decide +kernel
theorem dX12_cast_99 : decode cX12_cast 99 = .ok (.putfield 450, 3) := by decide +kernel
theorem dX12_cast_102 : decode cX12_cast 102 = .ok (.aload_n 0, 1) := by decide +kernel
theorem dX12_cast_103 : decode cX12_cast 103 = .ok (.getfield 450, 3) := by decide +kernel
theorem dX12_cast_106 : decode cX12_cast 106 = .ok (.iconst 1, 1) := by decide +kernel
theorem dX12_cast_107 : decode cX12_cast 107 = .ok (.isub, 1) := by decide +kernel
theorem dX12_cast_108 : decode cX12_cast 108 = .ok (.ireturn, 1) := by decide +kernel
theorem dX12_role_0 : decode cX12_role 0 = .ok (.iload_n 1, 1) := by decide +kernel
theorem dX12_role_1 : decode cX12_role 1 = .ok (.i2l, 1) := by decide +kernel
theorem dX12_role_2 : decode cX12_role 2 = .ok (.lconst 0, 1) := by decide +kernel
theorem dX12_role_3 : decode cX12_role 3 = .ok (.aload_n 0, 1) := by decide +kernel
theorem dX12_role_4 : decode cX12_role 4 = .ok (.getfield 450, 3) := by decide +kernel
theorem dX12_role_7 : decode cX12_role 7 = .ok (.iconst 1, 1) := by decide +kernel
theorem dX12_role_8 : decode cX12_role 8 = .ok (.isub, 1) := by decide +kernel
theorem dX12_role_9 : decode cX12_role 9 = .ok (.i2l, 1) := by decide +kernel
theorem dX12_role_10 : decode cX12_role 10 = .ok (.invokestatic 166, 3) := by decide +kernel
theorem dX12_role_13 : decode cX12_role 13 = .ok (.ifCond .eq 17, 3) := by decide +kernel
theorem dX12_role_16 : decode cX12_role 16 = .ok (.iload_n 3, 1) := by decide +kernel
theorem dX12_role_17 : decode cX12_role 17 = .ok (.bipush (-9), 2) := by decide +kernel
theorem dX12_role_19 : decode cX12_role 19 = .ok (.if_icmp .eq 13, 3) := by decide +kernel
theorem dX12_role_22 : decode cX12_role 22 = .ok (.aload_n 0, 1) := by decide +kernel
theorem dX12_role_23 : decode cX12_role 23 = .ok (.iload_n 3, 1) := by decide +kernel
theorem dX12_role_24 : decode cX12_role 24 = .ok (.invokevirtual 180, 3) := by decide +kernel
theorem dX12_role_27 : decode cX12_role 27 = .ok (.ifCond .ne 5, 3) := by decide +kernel
theorem dX12_role_30 : decode cX12_role 30 = .ok (.iconst (-1), 1) := by decide +kernel
theorem dX12_role_31 : decode cX12_role 31 = .ok (.ireturn, 1) := by decide +kernel
theorem dX12_role_32 : decode cX12_role 32 = .ok (.iload_n 3, 1) := by decide +kernel
theorem dX12_role_33 : decode cX12_role 33 = .ok (.bipush (-9), 2) := by decide +kernel
theorem dX12_role_35 : decode cX12_role 35 = .ok (.if_icmp .eq 18, 3) := by decide +kernel
theorem dX12_role_38 : decode cX12_role 38 = .ok (.aload_n 0, 1) := by decide +kernel
theorem dX12_role_39 : decode cX12_role 39 = .ok (.iload_n 3, 1) := by decide +kernel
theorem dX12_role_40 : decode cX12_role 40 = .ok (.iconst 0, 1) := by decide +kernel
theorem dX12_role_41 : decode cX12_role 41 = .ok (.invokevirtual 184, 3) := by decide +kernel
theorem dX12_role_44 : decode cX12_role 44 = .ok (.ifCond .eq 9, 3) := by decide +kernel
theorem dX12_role_47 : decode cX12_role 47 = .ok (.aload_n 0, 1) := by decide +kernel
theorem dX12_role_48 : decode cX12_role 48 = .ok (.iconst 3, 1) := by decide +kernel
theorem dX12_role_49 : decode cX12_role 49 = .ok (.invokevirtual 233, 3) := by decide +kernel
theorem dX12_role_52 : decode cX12_role 52 = .ok (.ireturn, 1) := by decide +kernel
theorem dX12_role_53 : decode cX12_role 53 = .ok (.iload_n 2, 1) := by decide +kernel
theorem dX12_role_54 : decode cX12_role 54 = .ok (.i2l, 1) := by decide +kernel
theorem dX12_role_55 : decode cX12_role 55 = .ok (.lconst 0, 1) := by decide +kernel
theorem dX12_role_56 : decode cX12_role 56 = .ok (.aload_n 0, 1) := by decide +kernel
theorem dX12_role_57 : decode cX12_role 57 = .ok (.getfield 142, 3) := by decide +kernel
theorem dX12_role_60 : decode cX12_role 60 = .ok (.iload_n 1, 1) := by decide +kernel
theorem dX12_role_61 : decode cX12_role 61 = .ok (.iaload, 1) := by decide +kernel
theorem dX12_role_62 : decode cX12_role 62 = .ok (.iconst 1, 1) := by decide +kernel
theorem dX12_role_63 : decode cX12_role 63 = .ok (.isub, 1) := by decide +kernel
theorem dX12_role_64 : decode cX12_role 64 = .ok (.i2l, 1) := by decide +kernel
theorem dX12_role_65 : decode cX12_role 65 = .ok (.invokestatic 166, 3) := by decide +kernel
theorem dX12_role_68 : decode cX12_role 68 = .ok (.ifCond .ne 9, 3) := by decide +kernel
theorem dX12_role_71 : decode cX12_role 71 = .ok (.aload_n 0, 1) := by decide +kernel
theorem dX12_role_72 : decode cX12_role 72 = .ok (.iconst 2, 1) := by decide +kernel
theorem dX12_role_73 : decode cX12_role 73 = .ok (.invokevirtual 233, 3) := by decide +kernel
theorem dX12_role_76 : decode cX12_role 76 = .ok (.ireturn, 1) := by decide +kernel
theorem dX12_role_77 : decode cX12_role 77 = .ok (.iload_n 3, 1) := by decide +kernel
theorem dX12_role_78 : decode cX12_role 78 = .ok (.bipush (-9), 2) := by decide +kernel
theorem dX12_role_80 : decode cX12_role 80 = .ok (.if_icmp .eq 24, 3) := by decide +kernel
theorem dX12_role_83 : decode cX12_role 83 = .ok (.aload_n 0, 1) := by decide +kernel
theorem dX12_role_84 : decode cX12_role 84 = .ok (.iload_n 3, 1) := by decide +kernel
theorem dX12_role_85 : decode cX12_role 85 = .ok (.aload_n 0, 1) := by decide +kernel
theorem dX12_role_86 : decode cX12_role 86 = .ok (.getfield 139, 3) := by decide +kernel
theorem dX12_role_89 : decode cX12_role 89 = .ok (.iload_n 1, 1) := by decide +kernel
theorem dX12_role_90 : decode cX12_role 90 = .ok (.iaload, 1) := by decide +kernel
theorem dX12_role_91 : decode cX12_role 91 = .ok (.invokevirtual 184, 3) := by decide +kernel
theorem dX12_role_94 : decode cX12_role 94 = .ok (.ifCond .ne 10, 3) := by decide +kernel
theorem dX12_role_97 : decode cX12_role 97 = .ok (.aload_n 0, 1) := by decide +kernel
theorem dX12_role_98 : decode cX12_role 98 = .ok (.bipush 6, 2) := by decide +kernel
theorem dX12_role_100 : decode cX12_role 100 = .ok (.invokevirtual 233, 3) := by decide +kernel
theorem dX12_role_103 : decode cX12_role 103 = .ok (.ireturn, 1) := by decide +kernel
theorem dX12_role_104 : decode cX12_role 104 = .ok (.aload_n 0, 1) := by decide +kernel
theorem dX12_role_105 : decode cX12_role 105 = .ok (.getfield 145, 3) := by decide +kernel
theorem dX12_role_108 : decode cX12_role 108 = .ok (.bipush 12, 2) := by decide +kernel
theorem dX12_role_110 : decode cX12_role 110 = .ok (.iload_n 1, 1) := by decide +kernel
theorem dX12_role_111 : decode cX12_role 111 = .ok (.imul, 1) := by decide +kernel
theorem dX12_role_112 : decode cX12_role 112 = .ok (.iload_n 2, 1) := by decide +kernel
theorem dX12_role_113 : decode cX12_role 113 = .ok (.iadd, 1) := by decide +kernel
theorem dX12_role_114 : decode cX12_role 114 = .ok (.iload_n 3, 1) := by decide +kernel
theorem dX12_role_115 : decode cX12_role 115 = .ok (.iastore, 1) := by decide +kernel
theorem dX12_role_116 : decode cX12_role 116 = .ok (.iconst 1, 1) := by decide +kernel
theorem dX12_role_117 : decode cX12_role 117 = .ok (.ireturn, 1) := by decide +kernel
theorem dX12_who_0 : decode cX12_who 0 = .ok (.iload_n 1, 1) := by decide +kernel
theorem dX12_who_1 : decode cX12_who 1 = .ok (.i2l, 1) := by decide +kernel
theorem dX12_who_2 : decode cX12_who 2 = .ok (.lconst 0, 1) := by decide +kernel
theorem dX12_who_3 : decode cX12_who 3 = .ok (.aload_n 0, 1) := by decide +kernel
theorem dX12_who_4 : decode cX12_who 4 = .ok (.getfield 450, 3) := by decide +kernel
theorem dX12_who_7 : decode cX12_who 7 = .ok (.iconst 1, 1) := by decide +kernel
theorem dX12_who_8 : decode cX12_who 8 = .ok (.isub, 1) := by decide +kernel
theorem dX12_who_9 : decode cX12_who 9 = .ok (.i2l, 1) := by decide +kernel
theorem dX12_who_10 : decode cX12_who 10 = .ok (.invokestatic 166, 3) := by decide +kernel
theorem dX12_who_13 : decode cX12_who 13 = .ok (.ifCond .ne 5, 3) := by decide +kernel
theorem dX12_who_16 : decode cX12_who 16 = .ok (.iconst (-1), 1) := by decide +kernel
theorem dX12_who_17 : decode cX12_who 17 = .ok (.ireturn, 1) := by decide +kernel
theorem dX12_who_18 : decode cX12_who 18 = .ok (.iload_n 2, 1) := by decide +kernel
theorem dX12_who_19 : decode cX12_who 19 = .ok (.i2l, 1) := by decide +kernel
theorem dX12_who_20 : decode cX12_who 20 = .ok (.lconst 0, 1) := by decide +kernel
theorem dX12_who_21 : decode cX12_who 21 = .ok (.aload_n 0, 1) := by decide +kernel
theorem dX12_who_22 : decode cX12_who 22 = .ok (.getfield 142, 3) := by decide +kernel
theorem dX12_who_25 : decode cX12_who 25 = .ok (.iload_n 1, 1) := by decide +kernel
theorem dX12_who_26 : decode cX12_who 26 = .ok (.iaload, 1) := by decide +kernel
theorem dX12_who_27 : decode cX12_who 27 = .ok (.iconst 1, 1) := by decide +kernel
theorem dX12_who_28 : decode cX12_who 28 = .ok (.isub, 1) := by decide +kernel
theorem dX12_who_29 : decode cX12_who 29 = .ok (.i2l, 1) := by decide +kernel
theorem dX12_who_30 : decode cX12_who 30 = .ok (.invokestatic 166, 3) := by decide +kernel
theorem dX12_who_33 : decode cX12_who 33 = .ok (.ifCond .ne 9, 3) := by decide +kernel
theorem dX12_who_36 : decode cX12_who 36 = .ok (.aload_n 0, 1) := by decide +kernel
theorem dX12_who_37 : decode cX12_who 37 = .ok (.iconst 2, 1) := by decide +kernel
theorem dX12_who_38 : decode cX12_who 38 = .ok (.invokevirtual 233, 3) := by decide +kernel
theorem dX12_who_41 : decode cX12_who 41 = .ok (.ireturn, 1) := by decide +kernel
theorem dX12_who_42 : decode cX12_who 42 = .ok (.aload_n 0, 1) := by decide +kernel
theorem dX12_who_43 : decode cX12_who 43 = .ok (.getfield 145, 3) := by decide +kernel
theorem dX12_who_46 : decode cX12_who 46 = .ok (.bipush 12, 2) := by decide +kernel
theorem dX12_who_48 : decode cX12_who 48 = .ok (.iload_n 1, 1) := by decide +kernel
theorem dX12_who_49 : decode cX12_who 49 = .ok (.imul, 1) := by decide +kernel
theorem dX12_who_50 : decode cX12_who 50 = .ok (.iload_n 2, 1) := by decide +kernel
theorem dX12_who_51 : decode cX12_who 51 = .ok (.iadd, 1) := by decide +kernel
theorem dX12_who_52 : decode cX12_who 52 = .ok (.iaload, 1) := by decide +kernel
theorem dX12_who_53 : decode cX12_who 53 = .ok (.bipush (-9), 2) := by decide +kernel
theorem dX12_who_55 : decode cX12_who 55 = .ok (.if_icmp .ne 11, 3) := by decide +kernel
theorem dX12_who_58 : decode cX12_who 58 = .ok (.aload_n 0, 1) := by decide +kernel
theorem dX12_who_59 : decode cX12_who 59 = .ok (.iconst 1, 1) := by decide +kernel
theorem dX12_who_60 : decode cX12_who 60 = .ok (.invokevirtual 233, 3) := by decide +kernel
theorem dX12_who_63 : decode cX12_who 63 = .ok (.goto 14, 3) := by decide +kernel
theorem dX12_who_66 : decode cX12_who 66 = .ok (.aload_n 0, 1) := by decide +kernel
theorem dX12_who_67 : decode cX12_who 67 = .ok (.getfield 145, 3) := by decide +kernel
theorem dX12_who_70 : decode cX12_who 70 = .ok (.bipush 12, 2) := by decide +kernel
theorem dX12_who_72 : decode cX12_who 72 = .ok (.iload_n 1, 1) := by decide +kernel
theorem dX12_who_73 : decode cX12_who 73 = .ok (.imul, 1) := by decide +kernel
theorem dX12_who_74 : decode cX12_who 74 = .ok (.iload_n 2, 1) := by decide +kernel
theorem dX12_who_75 : decode cX12_who 75 = .ok (.iadd, 1) := by decide +kernel
theorem dX12_who_76 : decode cX12_who 76 = .ok (.iaload, 1) := by decide +kernel
theorem dX12_who_77 : decode cX12_who 77 = .ok (.ireturn, 1) := by decide +kernel
theorem dX12_count_0 : decode cX12_count 0 = .ok (.iload_n 1, 1) := by decide +kernel
theorem dX12_count_1 : decode cX12_count 1 = .ok (.tableswitch 87 0 7 #[47, 52, 57, 62, 67, 72, 77, 82], 47) := by decide +kernel
theorem dX12_count_48 : decode cX12_count 48 = .ok (.aload_n 0, 1) := by decide +kernel
theorem dX12_count_49 : decode cX12_count 49 = .ok (.getfield 151, 3) := by decide +kernel
theorem dX12_count_52 : decode cX12_count 52 = .ok (.ireturn, 1) := by decide +kernel
theorem dX12_count_53 : decode cX12_count 53 = .ok (.aload_n 0, 1) := by decide +kernel
theorem dX12_count_54 : decode cX12_count 54 = .ok (.getfield 177, 3) := by decide +kernel
theorem dX12_count_57 : decode cX12_count 57 = .ok (.ireturn, 1) := by decide +kernel
theorem dX12_count_58 : decode cX12_count 58 = .ok (.aload_n 0, 1) := by decide +kernel
theorem dX12_count_59 : decode cX12_count 59 = .ok (.invokevirtual 248, 3) := by decide +kernel
theorem dX12_count_62 : decode cX12_count 62 = .ok (.ireturn, 1) := by decide +kernel
theorem dX12_count_63 : decode cX12_count 63 = .ok (.aload_n 0, 1) := by decide +kernel
theorem dX12_count_64 : decode cX12_count 64 = .ok (.getfield 202, 3) := by decide +kernel
theorem dX12_count_67 : decode cX12_count 67 = .ok (.ireturn, 1) := by decide +kernel
theorem dX12_count_68 : decode cX12_count 68 = .ok (.aload_n 0, 1) := by decide +kernel
theorem dX12_count_69 : decode cX12_count 69 = .ok (.getfield 450, 3) := by decide +kernel
theorem dX12_count_72 : decode cX12_count 72 = .ok (.ireturn, 1) := by decide +kernel
theorem dX12_count_73 : decode cX12_count 73 = .ok (.aload_n 0, 1) := by decide +kernel
theorem dX12_count_74 : decode cX12_count 74 = .ok (.getfield 291, 3) := by decide +kernel
theorem dX12_count_77 : decode cX12_count 77 = .ok (.ireturn, 1) := by decide +kernel
theorem dX12_count_78 : decode cX12_count 78 = .ok (.aload_n 0, 1) := by decide +kernel
theorem dX12_count_79 : decode cX12_count 79 = .ok (.getfield 155, 3) := by decide +kernel
theorem dX12_count_82 : decode cX12_count 82 = .ok (.ireturn, 1) := by decide +kernel
theorem dX12_count_83 : decode cX12_count 83 = .ok (.aload_n 0, 1) := by decide +kernel
theorem dX12_count_84 : decode cX12_count 84 = .ok (.getfield 158, 3) := by decide +kernel
theorem dX12_count_87 : decode cX12_count 87 = .ok (.ireturn, 1) := by decide +kernel
theorem dX12_count_88 : decode cX12_count 88 = .ok (.iconst (-1), 1) := by decide +kernel
theorem dX12_count_89 : decode cX12_count 89 = .ok (.ireturn, 1) := by decide +kernel
theorem dX12_digest_0 : decode cX12_digest 0 = .ok (.ldc2_w 453, 3) := by decide +kernel
theorem dX12_digest_3 : decode cX12_digest 3 = .ok (.lstore_n 1, 1) := by decide +kernel
theorem dX12_digest_4 : decode cX12_digest 4 = .ok (.iconst 0, 1) := by decide +kernel
theorem dX12_digest_5 : decode cX12_digest 5 = .ok (.istore_n 3, 1) := by decide +kernel
theorem dX12_digest_6 : decode cX12_digest 6 = .ok (.iload_n 3, 1) := by decide +kernel
theorem dX12_digest_7 : decode cX12_digest 7 = .ok (.aload_n 0, 1) := by decide +kernel
theorem dX12_digest_8 : decode cX12_digest 8 = .ok (.getfield 151, 3) := by decide +kernel
theorem dX12_digest_11 : decode cX12_digest 11 = .ok (.if_icmp .ge 59, 3) := by decide +kernel
theorem dX12_digest_14 : decode cX12_digest 14 = .ok (.ldc2_w 455, 3) := by decide +kernel
theorem dX12_digest_17 : decode cX12_digest 17 = .ok (.lload_n 1, 1) := by decide +kernel
theorem dX12_digest_18 : decode cX12_digest 18 = .ok (.lmul, 1) := by decide +kernel
theorem dX12_digest_19 : decode cX12_digest 19 = .ok (.aload_n 0, 1) := by decide +kernel
theorem dX12_digest_20 : decode cX12_digest 20 = .ok (.getfield 13, 3) := by decide +kernel
theorem dX12_digest_23 : decode cX12_digest 23 = .ok (.iload_n 3, 1) := by decide +kernel
theorem dX12_digest_24 : decode cX12_digest 24 = .ok (.iaload, 1) := by decide +kernel
theorem dX12_digest_25 : decode cX12_digest 25 = .ok (.i2l, 1) := by decide +kernel
theorem dX12_digest_26 : decode cX12_digest 26 = .ok (.ladd, 1) := by decide +kernel
theorem dX12_digest_27 : decode cX12_digest 27 = .ok (.lstore_n 1, 1) := by decide +kernel
theorem dX12_digest_28 : decode cX12_digest 28 = .ok (.iconst 0, 1) := by decide +kernel
theorem dX12_digest_29 : decode cX12_digest 29 = .ok (.istore 4, 2) := by decide +kernel
theorem dX12_digest_31 : decode cX12_digest 31 = .ok (.iload 4, 2) := by decide +kernel
theorem dX12_digest_33 : decode cX12_digest 33 = .ok (.bipush 6, 2) := by decide +kernel
theorem dX12_digest_35 : decode cX12_digest 35 = .ok (.if_icmp .ge 29, 3) := by decide +kernel
theorem dX12_digest_38 : decode cX12_digest 38 = .ok (.ldc2_w 455, 3) := by decide +kernel
theorem dX12_digest_41 : decode cX12_digest 41 = .ok (.lload_n 1, 1) := by decide +kernel
theorem dX12_digest_42 : decode cX12_digest 42 = .ok (.lmul, 1) := by decide +kernel
theorem dX12_digest_43 : decode cX12_digest 43 = .ok (.aload_n 0, 1) := by decide +kernel
theorem dX12_digest_44 : decode cX12_digest 44 = .ok (.getfield 16, 3) := by decide +kernel
theorem dX12_digest_47 : decode cX12_digest 47 = .ok (.bipush 6, 2) := by decide +kernel
theorem dX12_digest_49 : decode cX12_digest 49 = .ok (.iload_n 3, 1) := by decide +kernel
theorem dX12_digest_50 : decode cX12_digest 50 = .ok (.imul, 1) := by decide +kernel
theorem dX12_digest_51 : decode cX12_digest 51 = .ok (.iload 4, 2) := by decide +kernel
theorem dX12_digest_53 : decode cX12_digest 53 = .ok (.iadd, 1) := by decide +kernel
theorem dX12_digest_54 : decode cX12_digest 54 = .ok (.iaload, 1) := by decide +kernel
theorem dX12_digest_55 : decode cX12_digest 55 = .ok (.i2l, 1) := by decide +kernel
theorem dX12_digest_56 : decode cX12_digest 56 = .ok (.ladd, 1) := by decide +kernel
theorem dX12_digest_57 : decode cX12_digest 57 = .ok (.lstore_n 1, 1) := by decide +kernel
theorem dX12_digest_58 : decode cX12_digest 58 = .ok (.iinc 4 1, 3) := by decide +kernel
theorem dX12_digest_61 : decode cX12_digest 61 = .ok (.goto (-30), 3) := by decide +kernel
theorem dX12_digest_64 : decode cX12_digest 64 = .ok (.iinc 3 1, 3) := by decide +kernel
theorem dX12_digest_67 : decode cX12_digest 67 = .ok (.goto (-61), 3) := by decide +kernel
theorem dX12_digest_70 : decode cX12_digest 70 = .ok (.aload_n 0, 1) := by decide +kernel
theorem dX12_digest_71 : decode cX12_digest 71 = .ok (.getfield 155, 3) := by decide +kernel
theorem dX12_digest_74 : decode cX12_digest 74 = .ok (.bipush (-9), 2) := by decide +kernel
theorem dX12_digest_76 : decode cX12_digest 76 = .ok (.if_icmp .eq 11, 3) := by decide +kernel
theorem dX12_digest_79 : decode cX12_digest 79 = .ok (.aload_n 0, 1) := by decide +kernel
theorem dX12_digest_80 : decode cX12_digest 80 = .ok (.invokevirtual 392, 3) := by decide +kernel
theorem dX12_digest_83 : decode cX12_digest 83 = .ok (.aload_n 0, 1) := by decide +kernel
theorem dX12_digest_84 : decode cX12_digest 84 = .ok (.invokevirtual 395, 3) := by decide +kernel
theorem dX12_digest_87 : decode cX12_digest 87 = .ok (.iconst 0, 1) := by decide +kernel
theorem dX12_digest_88 : decode cX12_digest 88 = .ok (.istore_n 3, 1) := by decide +kernel
theorem dX12_digest_89 : decode cX12_digest 89 = .ok (.iload_n 3, 1) := by decide +kernel
theorem dX12_digest_90 : decode cX12_digest 90 = .ok (.aload_n 0, 1) := by decide +kernel
theorem dX12_digest_91 : decode cX12_digest 91 = .ok (.getfield 177, 3) := by decide +kernel
theorem dX12_digest_94 : decode cX12_digest 94 = .ok (.if_icmp .ge 134, 3) := by decide +kernel
theorem dX12_digest_97 : decode cX12_digest 97 = .ok (.ldc2_w 455, 3) := by decide +kernel
theorem dX12_digest_100 : decode cX12_digest 100 = .ok (.ldc2_w 455, 3) := by decide +kernel
theorem dX12_digest_103 : decode cX12_digest 103 = .ok (.lload_n 1, 1) := by decide +kernel
theorem dX12_digest_104 : decode cX12_digest 104 = .ok (.lmul, 1) := by decide +kernel
theorem dX12_digest_105 : decode cX12_digest 105 = .ok (.aload_n 0, 1) := by decide +kernel
theorem dX12_digest_106 : decode cX12_digest 106 = .ok (.getfield 19, 3) := by decide +kernel
theorem dX12_digest_109 : decode cX12_digest 109 = .ok (.iload_n 3, 1) := by decide +kernel
theorem dX12_digest_110 : decode cX12_digest 110 = .ok (.iaload, 1) := by decide +kernel
theorem dX12_digest_111 : decode cX12_digest 111 = .ok (.i2l, 1) := by decide +kernel
theorem dX12_digest_112 : decode cX12_digest 112 = .ok (.ladd, 1) := by decide +kernel
theorem dX12_digest_113 : decode cX12_digest 113 = .ok (.lmul, 1) := by decide +kernel
theorem dX12_digest_114 : decode cX12_digest 114 = .ok (.aload_n 0, 1) := by decide +kernel
theorem dX12_digest_115 : decode cX12_digest 115 = .ok (.getfield 22, 3) := by decide +kernel
theorem dX12_digest_118 : decode cX12_digest 118 = .ok (.iload_n 3, 1) := by decide +kernel
theorem dX12_digest_119 : decode cX12_digest 119 = .ok (.iaload, 1) := by decide +kernel
theorem dX12_digest_120 : decode cX12_digest 120 = .ok (.i2l, 1) := by decide +kernel
theorem dX12_digest_121 : decode cX12_digest 121 = .ok (.ladd, 1) := by decide +kernel
theorem dX12_digest_122 : decode cX12_digest 122 = .ok (.lstore_n 1, 1) := by decide +kernel
theorem dX12_digest_123 : decode cX12_digest 123 = .ok (.aload_n 0, 1) := by decide +kernel
theorem dX12_digest_124 : decode cX12_digest 124 = .ok (.iload_n 3, 1) := by decide +kernel
theorem dX12_digest_125 : decode cX12_digest 125 = .ok (.invokevirtual 208, 3) := by decide +kernel
theorem dX12_digest_128 : decode cX12_digest 128 = .ok (.istore 4, 2) := by decide +kernel
theorem dX12_digest_130 : decode cX12_digest 130 = .ok (.ldc2_w 455, 3) := by decide +kernel
theorem dX12_digest_133 : decode cX12_digest 133 = .ok (.ldc2_w 455, 3) := by decide +kernel
theorem dX12_digest_136 : decode cX12_digest 136 = .ok (.lload_n 1, 1) := by decide +kernel
theorem dX12_digest_137 : decode cX12_digest 137 = .ok (.lmul, 1) := by decide +kernel
theorem dX12_digest_138 : decode cX12_digest 138 = .ok (.iload 4, 2) := by decide +kernel
theorem dX12_digest_140 : decode cX12_digest 140 = .ok (.bipush (-9), 2) := by decide +kernel
theorem dX12_digest_142 : decode cX12_digest 142 = .ok (.if_icmp .ne 8, 3) := by decide +kernel
theorem dX12_digest_145 : decode cX12_digest 145 = .ok (.bipush (-9), 2) := by decide +kernel
theorem dX12_digest_147 : decode cX12_digest 147 = .ok (.goto 10, 3) := by decide +kernel
theorem dX12_digest_150 : decode cX12_digest 150 = .ok (.aload_n 0, 1) := by decide +kernel
theorem dX12_digest_151 : decode cX12_digest 151 = .ok (.getfield 25, 3) := by decide +kernel
theorem dX12_digest_154 : decode cX12_digest 154 = .ok (.iload 4, 2) := by decide +kernel
theorem dX12_digest_156 : decode cX12_digest 156 = .ok (.iaload, 1) := by decide +kernel
theorem dX12_digest_157 : decode cX12_digest 157 = .ok (.i2l, 1) := by decide +kernel
theorem dX12_digest_158 : decode cX12_digest 158 = .ok (.ladd, 1) := by decide +kernel
theorem dX12_digest_159 : decode cX12_digest 159 = .ok (.lmul, 1) := by decide +kernel
theorem dX12_digest_160 : decode cX12_digest 160 = .ok (.iload 4, 2) := by decide +kernel
theorem dX12_digest_162 : decode cX12_digest 162 = .ok (.bipush (-9), 2) := by decide +kernel
theorem dX12_digest_164 : decode cX12_digest 164 = .ok (.if_icmp .ne 8, 3) := by decide +kernel
theorem dX12_digest_167 : decode cX12_digest 167 = .ok (.bipush (-9), 2) := by decide +kernel
theorem dX12_digest_169 : decode cX12_digest 169 = .ok (.goto 10, 3) := by decide +kernel
theorem dX12_digest_172 : decode cX12_digest 172 = .ok (.aload_n 0, 1) := by decide +kernel
theorem dX12_digest_173 : decode cX12_digest 173 = .ok (.getfield 31, 3) := by decide +kernel
theorem dX12_digest_176 : decode cX12_digest 176 = .ok (.iload 4, 2) := by decide +kernel
theorem dX12_digest_178 : decode cX12_digest 178 = .ok (.iaload, 1) := by decide +kernel
theorem dX12_digest_179 : decode cX12_digest 179 = .ok (.i2l, 1) := by decide +kernel
theorem dX12_digest_180 : decode cX12_digest 180 = .ok (.ladd, 1) := by decide +kernel
theorem dX12_digest_181 : decode cX12_digest 181 = .ok (.lstore_n 1, 1) := by decide +kernel
theorem dX12_digest_182 : decode cX12_digest 182 = .ok (.iconst 0, 1) := by decide +kernel
theorem dX12_digest_183 : decode cX12_digest 183 = .ok (.istore 5, 2) := by decide +kernel
theorem dX12_digest_185 : decode cX12_digest 185 = .ok (.iload 5, 2) := by decide +kernel
theorem dX12_digest_187 : decode cX12_digest 187 = .ok (.bipush 6, 2) := by decide +kernel
theorem dX12_digest_189 : decode cX12_digest 189 = .ok (.if_icmp .ge 33, 3) := by decide +kernel
theorem dX12_digest_192 : decode cX12_digest 192 = .ok (.aload_n 0, 1) := by decide +kernel
theorem dX12_digest_193 : decode cX12_digest 193 = .ok (.getfield 155, 3) := by decide +kernel
theorem dX12_digest_196 : decode cX12_digest 196 = .ok (.bipush (-9), 2) := by decide +kernel
theorem dX12_digest_198 : decode cX12_digest 198 = .ok (.if_icmp .eq 24, 3) := by decide +kernel
theorem dX12_digest_201 : decode cX12_digest 201 = .ok (.ldc2_w 455, 3) := by decide +kernel
theorem dX12_digest_204 : decode cX12_digest 204 = .ok (.lload_n 1, 1) := by decide +kernel
theorem dX12_digest_205 : decode cX12_digest 205 = .ok (.lmul, 1) := by decide +kernel
theorem dX12_digest_206 : decode cX12_digest 206 = .ok (.aload_n 0, 1) := by decide +kernel
theorem dX12_digest_207 : decode cX12_digest 207 = .ok (.iload_n 3, 1) := by decide +kernel
theorem dX12_digest_208 : decode cX12_digest 208 = .ok (.iload 5, 2) := by decide +kernel
theorem dX12_digest_210 : decode cX12_digest 210 = .ok (.invokevirtual 407, 3) := by decide +kernel
theorem dX12_digest_213 : decode cX12_digest 213 = .ok (.i2l, 1) := by decide +kernel
theorem dX12_digest_214 : decode cX12_digest 214 = .ok (.ladd, 1) := by decide +kernel
theorem dX12_digest_215 : decode cX12_digest 215 = .ok (.lstore_n 1, 1) := by decide +kernel
theorem dX12_digest_216 : decode cX12_digest 216 = .ok (.iinc 5 1, 3) := by decide +kernel
theorem dX12_digest_219 : decode cX12_digest 219 = .ok (.goto (-34), 3) := by decide +kernel
theorem dX12_digest_222 : decode cX12_digest 222 = .ok (.iinc 3 1, 3) := by decide +kernel
theorem dX12_digest_225 : decode cX12_digest 225 = .ok (.goto (-136), 3) := by decide +kernel
theorem dX12_digest_228 : decode cX12_digest 228 = .ok (.iconst 0, 1) := by decide +kernel
theorem dX12_digest_229 : decode cX12_digest 229 = .ok (.istore_n 3, 1) := by decide +kernel
theorem dX12_digest_230 : decode cX12_digest 230 = .ok (.iload_n 3, 1) := by decide +kernel
theorem dX12_digest_231 : decode cX12_digest 231 = .ok (.aload_n 0, 1) := by decide +kernel
theorem dX12_digest_232 : decode cX12_digest 232 = .ok (.getfield 202, 3) := by decide +kernel
theorem dX12_digest_235 : decode cX12_digest 235 = .ok (.if_icmp .ge 39, 3) := by decide +kernel
theorem dX12_digest_238 : decode cX12_digest 238 = .ok (.iconst 0, 1) := by decide +kernel
theorem dX12_digest_239 : decode cX12_digest 239 = .ok (.istore 4, 2) := by decide +kernel
theorem dX12_digest_241 : decode cX12_digest 241 = .ok (.iload 4, 2) := by decide +kernel
theorem dX12_digest_243 : decode cX12_digest 243 = .ok (.iconst 5, 1) := by decide +kernel
theorem dX12_digest_244 : decode cX12_digest 244 = .ok (.if_icmp .ge 24, 3) := by decide +kernel
theorem dX12_digest_247 : decode cX12_digest 247 = .ok (.ldc2_w 455, 3) := by decide +kernel
theorem dX12_digest_250 : decode cX12_digest 250 = .ok (.lload_n 1, 1) := by decide +kernel
theorem dX12_digest_251 : decode cX12_digest 251 = .ok (.lmul, 1) := by decide +kernel
theorem dX12_digest_252 : decode cX12_digest 252 = .ok (.aload_n 0, 1) := by decide +kernel
theorem dX12_digest_253 : decode cX12_digest 253 = .ok (.iload_n 3, 1) := by decide +kernel
theorem dX12_digest_254 : decode cX12_digest 254 = .ok (.iload 4, 2) := by decide +kernel
theorem dX12_digest_256 : decode cX12_digest 256 = .ok (.invokevirtual 457, 3) := by decide +kernel
theorem dX12_digest_259 : decode cX12_digest 259 = .ok (.i2l, 1) := by decide +kernel
theorem dX12_digest_260 : decode cX12_digest 260 = .ok (.ladd, 1) := by decide +kernel
theorem dX12_digest_261 : decode cX12_digest 261 = .ok (.lstore_n 1, 1) := by decide +kernel
theorem dX12_digest_262 : decode cX12_digest 262 = .ok (.iinc 4 1, 3) := by decide +kernel
theorem dX12_digest_265 : decode cX12_digest 265 = .ok (.goto (-24), 3) := by decide +kernel
theorem dX12_digest_268 : decode cX12_digest 268 = .ok (.iinc 3 1, 3) := by decide +kernel
theorem dX12_digest_271 : decode cX12_digest 271 = .ok (.goto (-41), 3) := by decide +kernel
theorem dX12_digest_274 : decode cX12_digest 274 = .ok (.lload_n 1, 1) := by decide +kernel
theorem dX12_digest_275 : decode cX12_digest 275 = .ok (.lreturn, 1) := by decide +kernel
theorem dJ7_fill_53178_0 : decode cJ7_fill_53178 0 = .ok (.iconst 0, 1) := by decide +kernel
theorem dJ7_fill_53178_1 : decode cJ7_fill_53178 1 = .ok (.istore_n 2, 1) := by decide +kernel
theorem dJ7_fill_53178_2 : decode cJ7_fill_53178 2 = .ok (.aload_n 0, 1) := by decide +kernel
theorem dJ7_fill_53178_3 : decode cJ7_fill_53178 3 = .ok (.arraylength, 1) := by decide +kernel
theorem dJ7_fill_53178_4 : decode cJ7_fill_53178 4 = .ok (.istore_n 3, 1) := by decide +kernel
theorem dJ7_fill_53178_5 : decode cJ7_fill_53178 5 = .ok (.iload_n 2, 1) := by decide +kernel
theorem dJ7_fill_53178_6 : decode cJ7_fill_53178 6 = .ok (.iload_n 3, 1) := by decide +kernel
theorem dJ7_fill_53178_7 : decode cJ7_fill_53178 7 = .ok (.if_icmp .ge 13, 3) := by decide +kernel
theorem dJ7_fill_53178_10 : decode cJ7_fill_53178 10 = .ok (.aload_n 0, 1) := by decide +kernel
theorem dJ7_fill_53178_11 : decode cJ7_fill_53178 11 = .ok (.iload_n 2, 1) := by decide +kernel
theorem dJ7_fill_53178_12 : decode cJ7_fill_53178 12 = .ok (.iload_n 1, 1) := by decide +kernel
theorem dJ7_fill_53178_13 : decode cJ7_fill_53178 13 = .ok (.iastore, 1) := by decide +kernel
theorem dJ7_fill_53178_14 : decode cJ7_fill_53178 14 = .ok (.iinc 2 1, 3) := by decide +kernel
theorem dJ7_fill_53178_17 : decode cJ7_fill_53178 17 = .ok (.goto (-12), 3) := by decide +kernel
theorem dJ7_fill_53178_20 : decode cJ7_fill_53178 20 = .ok (.return_, 1) := by decide +kernel
theorem dL_law_0 : decode cL_law 0 = .ok (.new 7, 3) := by decide +kernel
theorem dL_law_3 : decode cL_law 3 = .ok (.dup, 1) := by decide +kernel
theorem dL_law_4 : decode cL_law 4 = .ok (.invokespecial 9, 3) := by decide +kernel
theorem dL_law_7 : decode cL_law 7 = .ok (.astore_n 1, 1) := by decide +kernel
theorem dL_law_8 : decode cL_law 8 = .ok (.new 10, 3) := by decide +kernel
theorem dL_law_11 : decode cL_law 11 = .ok (.dup, 1) := by decide +kernel
theorem dL_law_12 : decode cL_law 12 = .ok (.invokespecial 12, 3) := by decide +kernel
theorem dL_law_15 : decode cL_law 15 = .ok (.astore_n 2, 1) := by decide +kernel
theorem dL_law_16 : decode cL_law 16 = .ok (.iconst 0, 1) := by decide +kernel
theorem dL_law_17 : decode cL_law 17 = .ok (.istore_n 3, 1) := by decide +kernel
theorem dL_law_18 : decode cL_law 18 = .ok (.iload_n 3, 1) := by decide +kernel
theorem dL_law_19 : decode cL_law 19 = .ok (.aload_n 0, 1) := by decide +kernel
theorem dL_law_20 : decode cL_law 20 = .ok (.arraylength, 1) := by decide +kernel
theorem dL_law_21 : decode cL_law 21 = .ok (.bipush 7, 2) := by decide +kernel
theorem dL_law_23 : decode cL_law 23 = .ok (.isub, 1) := by decide +kernel
theorem dL_law_24 : decode cL_law 24 = .ok (.if_icmp .gt 1443, 3) := by decide +kernel
theorem dL_law_27 : decode cL_law 27 = .ok (.aload_n 0, 1) := by decide +kernel
theorem dL_law_28 : decode cL_law 28 = .ok (.iload_n 3, 1) := by decide +kernel
theorem dL_law_29 : decode cL_law 29 = .ok (.iaload, 1) := by decide +kernel
theorem dL_law_30 : decode cL_law 30 = .ok (.bipush 63, 2) := by decide +kernel
theorem dL_law_32 : decode cL_law 32 = .ok (.iand, 1) := by decide +kernel
theorem dL_law_33 : decode cL_law 33 = .ok (.tableswitch 1428 0 36 #[163, 186, 229, 262, 295, 318, 331, 354, 387, 440, 463, 486, 519, 552, 595, 628, 651, 710, 769, 792, 835, 848, 881, 914, 927, 970, 1003, 1046, 1129, 1172, 1247, 1280, 1323, 1356, 1379, 1392, 1415], 163) := by decide +kernel
theorem dL_law_196 : decode cL_law 196 = .ok (.aload_n 1, 1) := by decide +kernel
theorem dL_law_197 : decode cL_law 197 = .ok (.aload_n 0, 1) := by decide +kernel
theorem dL_law_198 : decode cL_law 198 = .ok (.iload_n 3, 1) := by decide +kernel
theorem dL_law_199 : decode cL_law 199 = .ok (.iconst 1, 1) := by decide +kernel
theorem dL_law_200 : decode cL_law 200 = .ok (.iadd, 1) := by decide +kernel
theorem dL_law_201 : decode cL_law 201 = .ok (.iaload, 1) := by decide +kernel
theorem dL_law_202 : decode cL_law 202 = .ok (.invokevirtual 13, 3) := by decide +kernel
theorem dL_law_205 : decode cL_law 205 = .ok (.pop, 1) := by decide +kernel
theorem dL_law_206 : decode cL_law 206 = .ok (.aload_n 2, 1) := by decide +kernel
theorem dL_law_207 : decode cL_law 207 = .ok (.aload_n 0, 1) := by decide +kernel
theorem dL_law_208 : decode cL_law 208 = .ok (.iload_n 3, 1) := by decide +kernel
theorem dL_law_209 : decode cL_law 209 = .ok (.iconst 1, 1) := by decide +kernel
theorem dL_law_210 : decode cL_law 210 = .ok (.iadd, 1) := by decide +kernel
theorem dL_law_211 : decode cL_law 211 = .ok (.iaload, 1) := by decide +kernel
theorem dL_law_212 : decode cL_law 212 = .ok (.invokevirtual 17, 3) := by decide +kernel
theorem dL_law_215 : decode cL_law 215 = .ok (.pop, 1) := by decide +kernel
theorem dL_law_216 : decode cL_law 216 = .ok (.goto 1245, 3) := by decide +kernel
theorem dL_law_219 : decode cL_law 219 = .ok (.aload_n 1, 1) := by decide +kernel
theorem dL_law_220 : decode cL_law 220 = .ok (.aload_n 0, 1) := by decide +kernel
theorem dL_law_221 : decode cL_law 221 = .ok (.iload_n 3, 1) := by decide +kernel
theorem dL_law_222 : decode cL_law 222 = .ok (.iconst 1, 1) := by decide +kernel
theorem dL_law_223 : decode cL_law 223 = .ok (.iadd, 1) := by decide +kernel
theorem dL_law_224 : decode cL_law 224 = .ok (.iaload, 1) := by decide +kernel
theorem dL_law_225 : decode cL_law 225 = .ok (.aload_n 0, 1) := by decide +kernel
theorem dL_law_226 : decode cL_law 226 = .ok (.iload_n 3, 1) := by decide +kernel
theorem dL_law_227 : decode cL_law 227 = .ok (.iconst 2, 1) := by decide +kernel
theorem dL_law_228 : decode cL_law 228 = .ok (.iadd, 1) := by decide +kernel
theorem dL_law_229 : decode cL_law 229 = .ok (.iaload, 1) := by decide +kernel
theorem dL_law_230 : decode cL_law 230 = .ok (.aload_n 0, 1) := by decide +kernel
theorem dL_law_231 : decode cL_law 231 = .ok (.iload_n 3, 1) := by decide +kernel
theorem dL_law_232 : decode cL_law 232 = .ok (.iconst 3, 1) := by decide +kernel
theorem dL_law_233 : decode cL_law 233 = .ok (.iadd, 1) := by decide +kernel
theorem dL_law_234 : decode cL_law 234 = .ok (.iaload, 1) := by decide +kernel
theorem dL_law_235 : decode cL_law 235 = .ok (.invokevirtual 18, 3) := by decide +kernel
theorem dL_law_238 : decode cL_law 238 = .ok (.pop, 1) := by decide +kernel
theorem dL_law_239 : decode cL_law 239 = .ok (.aload_n 2, 1) := by decide +kernel
theorem dL_law_240 : decode cL_law 240 = .ok (.aload_n 0, 1) := by decide +kernel
theorem dL_law_241 : decode cL_law 241 = .ok (.iload_n 3, 1) := by decide +kernel
theorem dL_law_242 : decode cL_law 242 = .ok (.iconst 1, 1) := by decide +kernel
theorem dL_law_243 : decode cL_law 243 = .ok (.iadd, 1) := by decide +kernel
theorem dL_law_244 : decode cL_law 244 = .ok (.iaload, 1) := by decide +kernel
theorem dL_law_245 : decode cL_law 245 = .ok (.aload_n 0, 1) := by decide +kernel
theorem dL_law_246 : decode cL_law 246 = .ok (.iload_n 3, 1) := by decide +kernel
theorem dL_law_247 : decode cL_law 247 = .ok (.iconst 2, 1) := by decide +kernel
theorem dL_law_248 : decode cL_law 248 = .ok (.iadd, 1) := by decide +kernel
theorem dL_law_249 : decode cL_law 249 = .ok (.iaload, 1) := by decide +kernel
theorem dL_law_250 : decode cL_law 250 = .ok (.aload_n 0, 1) := by decide +kernel
theorem dL_law_251 : decode cL_law 251 = .ok (.iload_n 3, 1) := by decide +kernel
theorem dL_law_252 : decode cL_law 252 = .ok (.iconst 3, 1) := by decide +kernel
theorem dL_law_253 : decode cL_law 253 = .ok (.iadd, 1) := by decide +kernel
theorem dL_law_254 : decode cL_law 254 = .ok (.iaload, 1) := by decide +kernel
theorem dL_law_255 : decode cL_law 255 = .ok (.invokevirtual 22, 3) := by decide +kernel
theorem dL_law_258 : decode cL_law 258 = .ok (.pop, 1) := by decide +kernel
theorem dL_law_259 : decode cL_law 259 = .ok (.goto 1202, 3) := by decide +kernel
theorem dL_law_262 : decode cL_law 262 = .ok (.aload_n 1, 1) := by decide +kernel
theorem dL_law_263 : decode cL_law 263 = .ok (.aload_n 0, 1) := by decide +kernel
theorem dL_law_264 : decode cL_law 264 = .ok (.iload_n 3, 1) := by decide +kernel
theorem dL_law_265 : decode cL_law 265 = .ok (.iconst 1, 1) := by decide +kernel
theorem dL_law_266 : decode cL_law 266 = .ok (.iadd, 1) := by decide +kernel
theorem dL_law_267 : decode cL_law 267 = .ok (.iaload, 1) := by decide +kernel
theorem dL_law_268 : decode cL_law 268 = .ok (.aload_n 0, 1) := by decide +kernel
theorem dL_law_269 : decode cL_law 269 = .ok (.iload_n 3, 1) := by decide +kernel
theorem dL_law_270 : decode cL_law 270 = .ok (.iconst 2, 1) := by decide +kernel
theorem dL_law_271 : decode cL_law 271 = .ok (.iadd, 1) := by decide +kernel
theorem dL_law_272 : decode cL_law 272 = .ok (.iaload, 1) := by decide +kernel
theorem dL_law_273 : decode cL_law 273 = .ok (.invokevirtual 23, 3) := by decide +kernel
theorem dL_law_276 : decode cL_law 276 = .ok (.pop, 1) := by decide +kernel
theorem dL_law_277 : decode cL_law 277 = .ok (.aload_n 2, 1) := by decide +kernel
theorem dL_law_278 : decode cL_law 278 = .ok (.aload_n 0, 1) := by decide +kernel
theorem dL_law_279 : decode cL_law 279 = .ok (.iload_n 3, 1) := by decide +kernel
theorem dL_law_280 : decode cL_law 280 = .ok (.iconst 1, 1) := by decide +kernel
theorem dL_law_281 : decode cL_law 281 = .ok (.iadd, 1) := by decide +kernel
theorem dL_law_282 : decode cL_law 282 = .ok (.iaload, 1) := by decide +kernel
theorem dL_law_283 : decode cL_law 283 = .ok (.aload_n 0, 1) := by decide +kernel
theorem dL_law_284 : decode cL_law 284 = .ok (.iload_n 3, 1) := by decide +kernel
theorem dL_law_285 : decode cL_law 285 = .ok (.iconst 2, 1) := by decide +kernel
theorem dL_law_286 : decode cL_law 286 = .ok (.iadd, 1) := by decide +kernel
theorem dL_law_287 : decode cL_law 287 = .ok (.iaload, 1) := by decide +kernel
theorem dL_law_288 : decode cL_law 288 = .ok (.invokevirtual 27, 3) := by decide +kernel
theorem dL_law_291 : decode cL_law 291 = .ok (.pop, 1) := by decide +kernel
theorem dL_law_292 : decode cL_law 292 = .ok (.goto 1169, 3) := by decide +kernel
theorem dL_law_295 : decode cL_law 295 = .ok (.aload_n 1, 1) := by decide +kernel
theorem dL_law_296 : decode cL_law 296 = .ok (.aload_n 0, 1) := by decide +kernel
theorem dL_law_297 : decode cL_law 297 = .ok (.iload_n 3, 1) := by decide +kernel
theorem dL_law_298 : decode cL_law 298 = .ok (.iconst 1, 1) := by decide +kernel
theorem dL_law_299 : decode cL_law 299 = .ok (.iadd, 1) := by decide +kernel
theorem dL_law_300 : decode cL_law 300 = .ok (.iaload, 1) := by decide +kernel
theorem dL_law_301 : decode cL_law 301 = .ok (.aload_n 0, 1) := by decide +kernel
theorem dL_law_302 : decode cL_law 302 = .ok (.iload_n 3, 1) := by decide +kernel
theorem dL_law_303 : decode cL_law 303 = .ok (.iconst 2, 1) := by decide +kernel
theorem dL_law_304 : decode cL_law 304 = .ok (.iadd, 1) := by decide +kernel
theorem dL_law_305 : decode cL_law 305 = .ok (.iaload, 1) := by decide +kernel
theorem dL_law_306 : decode cL_law 306 = .ok (.invokevirtual 28, 3) := by decide +kernel
theorem dL_law_309 : decode cL_law 309 = .ok (.aload_n 2, 1) := by decide +kernel
theorem dL_law_310 : decode cL_law 310 = .ok (.aload_n 0, 1) := by decide +kernel
theorem dL_law_311 : decode cL_law 311 = .ok (.iload_n 3, 1) := by decide +kernel
theorem dL_law_312 : decode cL_law 312 = .ok (.iconst 1, 1) := by decide +kernel
theorem dL_law_313 : decode cL_law 313 = .ok (.iadd, 1) := by decide +kernel
theorem dL_law_314 : decode cL_law 314 = .ok (.iaload, 1) := by decide +kernel
theorem dL_law_315 : decode cL_law 315 = .ok (.aload_n 0, 1) := by decide +kernel
theorem dL_law_316 : decode cL_law 316 = .ok (.iload_n 3, 1) := by decide +kernel
theorem dL_law_317 : decode cL_law 317 = .ok (.iconst 2, 1) := by decide +kernel
theorem dL_law_318 : decode cL_law 318 = .ok (.iadd, 1) := by decide +kernel
theorem dL_law_319 : decode cL_law 319 = .ok (.iaload, 1) := by decide +kernel
theorem dL_law_320 : decode cL_law 320 = .ok (.invokevirtual 31, 3) := by decide +kernel
theorem dL_law_323 : decode cL_law 323 = .ok (.if_icmp .eq 1138, 3) := by decide +kernel
theorem dL_law_326 : decode cL_law 326 = .ok (.iconst 0, 1) := by decide +kernel
theorem dL_law_327 : decode cL_law 327 = .ok (.ireturn, 1) := by decide +kernel
theorem dL_law_328 : decode cL_law 328 = .ok (.aload_n 1, 1) := by decide +kernel
theorem dL_law_329 : decode cL_law 329 = .ok (.aload_n 0, 1) := by decide +kernel
theorem dL_law_330 : decode cL_law 330 = .ok (.iload_n 3, 1) := by decide +kernel
theorem dL_law_331 : decode cL_law 331 = .ok (.iconst 1, 1) := by decide +kernel
theorem dL_law_332 : decode cL_law 332 = .ok (.iadd, 1) := by decide +kernel
theorem dL_law_333 : decode cL_law 333 = .ok (.iaload, 1) := by decide +kernel
theorem dL_law_334 : decode cL_law 334 = .ok (.invokevirtual 32, 3) := by decide +kernel
theorem dL_law_337 : decode cL_law 337 = .ok (.pop, 1) := by decide +kernel
theorem dL_law_338 : decode cL_law 338 = .ok (.aload_n 2, 1) := by decide +kernel
theorem dL_law_339 : decode cL_law 339 = .ok (.aload_n 0, 1) := by decide +kernel
theorem dL_law_340 : decode cL_law 340 = .ok (.iload_n 3, 1) := by decide +kernel
theorem dL_law_341 : decode cL_law 341 = .ok (.iconst 1, 1) := by decide +kernel
theorem dL_law_342 : decode cL_law 342 = .ok (.iadd, 1) := by decide +kernel
theorem dL_law_343 : decode cL_law 343 = .ok (.iaload, 1) := by decide +kernel
theorem dL_law_344 : decode cL_law 344 = .ok (.invokevirtual 35, 3) := by decide +kernel
theorem dL_law_347 : decode cL_law 347 = .ok (.pop, 1) := by decide +kernel
theorem dL_law_348 : decode cL_law 348 = .ok (.goto 1113, 3) := by decide +kernel
theorem dL_law_351 : decode cL_law 351 = .ok (.aload_n 1, 1) := by decide +kernel
theorem dL_law_352 : decode cL_law 352 = .ok (.invokevirtual 36, 3) := by decide +kernel
theorem dL_law_355 : decode cL_law 355 = .ok (.pop2, 1) := by decide +kernel
theorem dL_law_356 : decode cL_law 356 = .ok (.aload_n 2, 1) := by decide +kernel
theorem dL_law_357 : decode cL_law 357 = .ok (.invokevirtual 40, 3) := by decide +kernel
theorem dL_law_360 : decode cL_law 360 = .ok (.pop2, 1) := by decide +kernel
theorem dL_law_361 : decode cL_law 361 = .ok (.goto 1100, 3) := by decide +kernel
theorem dL_law_364 : decode cL_law 364 = .ok (.aload_n 1, 1) := by decide +kernel
theorem dL_law_365 : decode cL_law 365 = .ok (.aload_n 0, 1) := by decide +kernel
theorem dL_law_366 : decode cL_law 366 = .ok (.iload_n 3, 1) := by decide +kernel
theorem dL_law_367 : decode cL_law 367 = .ok (.iconst 1, 1) := by decide +kernel
theorem dL_law_368 : decode cL_law 368 = .ok (.iadd, 1) := by decide +kernel
theorem dL_law_369 : decode cL_law 369 = .ok (.iaload, 1) := by decide +kernel
theorem dL_law_370 : decode cL_law 370 = .ok (.invokevirtual 41, 3) := by decide +kernel
theorem dL_law_373 : decode cL_law 373 = .ok (.pop, 1) := by decide +kernel
theorem dL_law_374 : decode cL_law 374 = .ok (.aload_n 2, 1) := by decide +kernel
theorem dL_law_375 : decode cL_law 375 = .ok (.aload_n 0, 1) := by decide +kernel
theorem dL_law_376 : decode cL_law 376 = .ok (.iload_n 3, 1) := by decide +kernel
theorem dL_law_377 : decode cL_law 377 = .ok (.iconst 1, 1) := by decide +kernel
theorem dL_law_378 : decode cL_law 378 = .ok (.iadd, 1) := by decide +kernel
theorem dL_law_379 : decode cL_law 379 = .ok (.iaload, 1) := by decide +kernel
theorem dL_law_380 : decode cL_law 380 = .ok (.invokevirtual 44, 3) := by decide +kernel
theorem dL_law_383 : decode cL_law 383 = .ok (.pop, 1) := by decide +kernel
theorem dL_law_384 : decode cL_law 384 = .ok (.goto 1077, 3) := by decide +kernel
theorem dL_law_387 : decode cL_law 387 = .ok (.aload_n 1, 1) := by decide +kernel
theorem dL_law_388 : decode cL_law 388 = .ok (.aload_n 0, 1) := by decide +kernel
theorem dL_law_389 : decode cL_law 389 = .ok (.iload_n 3, 1) := by decide +kernel
theorem dL_law_390 : decode cL_law 390 = .ok (.iconst 1, 1) := by decide +kernel
theorem dL_law_391 : decode cL_law 391 = .ok (.iadd, 1) := by decide +kernel
theorem dL_law_392 : decode cL_law 392 = .ok (.iaload, 1) := by decide +kernel
theorem dL_law_393 : decode cL_law 393 = .ok (.aload_n 0, 1) := by decide +kernel
theorem dL_law_394 : decode cL_law 394 = .ok (.iload_n 3, 1) := by decide +kernel
theorem dL_law_395 : decode cL_law 395 = .ok (.iconst 2, 1) := by decide +kernel
theorem dL_law_396 : decode cL_law 396 = .ok (.iadd, 1) := by decide +kernel
theorem dL_law_397 : decode cL_law 397 = .ok (.iaload, 1) := by decide +kernel
theorem dL_law_398 : decode cL_law 398 = .ok (.invokevirtual 45, 3) := by decide +kernel
theorem dL_law_401 : decode cL_law 401 = .ok (.pop, 1) := by decide +kernel
theorem dL_law_402 : decode cL_law 402 = .ok (.aload_n 2, 1) := by decide +kernel
theorem dL_law_403 : decode cL_law 403 = .ok (.aload_n 0, 1) := by decide +kernel
theorem dL_law_404 : decode cL_law 404 = .ok (.iload_n 3, 1) := by decide +kernel
theorem dL_law_405 : decode cL_law 405 = .ok (.iconst 1, 1) := by decide +kernel
theorem dL_law_406 : decode cL_law 406 = .ok (.iadd, 1) := by decide +kernel
theorem dL_law_407 : decode cL_law 407 = .ok (.iaload, 1) := by decide +kernel
theorem dL_law_408 : decode cL_law 408 = .ok (.aload_n 0, 1) := by decide +kernel
theorem dL_law_409 : decode cL_law 409 = .ok (.iload_n 3, 1) := by decide +kernel
theorem dL_law_410 : decode cL_law 410 = .ok (.iconst 2, 1) := by decide +kernel
theorem dL_law_411 : decode cL_law 411 = .ok (.iadd, 1) := by decide +kernel
theorem dL_law_412 : decode cL_law 412 = .ok (.iaload, 1) := by decide +kernel
theorem dL_law_413 : decode cL_law 413 = .ok (.invokevirtual 48, 3) := by decide +kernel
theorem dL_law_416 : decode cL_law 416 = .ok (.pop, 1) := by decide +kernel
theorem dL_law_417 : decode cL_law 417 = .ok (.goto 1044, 3) := by decide +kernel
theorem dL_law_420 : decode cL_law 420 = .ok (.aload_n 1, 1) := by decide +kernel
theorem dL_law_421 : decode cL_law 421 = .ok (.aload_n 0, 1) := by decide +kernel
theorem dL_law_422 : decode cL_law 422 = .ok (.iload_n 3, 1) := by decide +kernel
theorem dL_law_423 : decode cL_law 423 = .ok (.iconst 1, 1) := by decide +kernel
theorem dL_law_424 : decode cL_law 424 = .ok (.iadd, 1) := by decide +kernel
theorem dL_law_425 : decode cL_law 425 = .ok (.iaload, 1) := by decide +kernel
theorem dL_law_426 : decode cL_law 426 = .ok (.aload_n 0, 1) := by decide +kernel
theorem dL_law_427 : decode cL_law 427 = .ok (.iload_n 3, 1) := by decide +kernel
theorem dL_law_428 : decode cL_law 428 = .ok (.iconst 2, 1) := by decide +kernel
theorem dL_law_429 : decode cL_law 429 = .ok (.iadd, 1) := by decide +kernel
theorem dL_law_430 : decode cL_law 430 = .ok (.iaload, 1) := by decide +kernel
theorem dL_law_431 : decode cL_law 431 = .ok (.aload_n 0, 1) := by decide +kernel
theorem dL_law_432 : decode cL_law 432 = .ok (.iload_n 3, 1) := by decide +kernel
theorem dL_law_433 : decode cL_law 433 = .ok (.iconst 3, 1) := by decide +kernel
theorem dL_law_434 : decode cL_law 434 = .ok (.iadd, 1) := by decide +kernel
theorem dL_law_435 : decode cL_law 435 = .ok (.iaload, 1) := by decide +kernel
theorem dL_law_436 : decode cL_law 436 = .ok (.aload_n 0, 1) := by decide +kernel
theorem dL_law_437 : decode cL_law 437 = .ok (.iload_n 3, 1) := by decide +kernel
theorem dL_law_438 : decode cL_law 438 = .ok (.iconst 4, 1) := by decide +kernel
theorem dL_law_439 : decode cL_law 439 = .ok (.iadd, 1) := by decide +kernel
theorem dL_law_440 : decode cL_law 440 = .ok (.iaload, 1) := by decide +kernel
theorem dL_law_441 : decode cL_law 441 = .ok (.invokevirtual 49, 3) := by decide +kernel
theorem dL_law_444 : decode cL_law 444 = .ok (.pop, 1) := by decide +kernel
theorem dL_law_445 : decode cL_law 445 = .ok (.aload_n 2, 1) := by decide +kernel
theorem dL_law_446 : decode cL_law 446 = .ok (.aload_n 0, 1) := by decide +kernel
theorem dL_law_447 : decode cL_law 447 = .ok (.iload_n 3, 1) := by decide +kernel
theorem dL_law_448 : decode cL_law 448 = .ok (.iconst 1, 1) := by decide +kernel
theorem dL_law_449 : decode cL_law 449 = .ok (.iadd, 1) := by decide +kernel
theorem dL_law_450 : decode cL_law 450 = .ok (.iaload, 1) := by decide +kernel
theorem dL_law_451 : decode cL_law 451 = .ok (.aload_n 0, 1) := by decide +kernel
theorem dL_law_452 : decode cL_law 452 = .ok (.iload_n 3, 1) := by decide +kernel
theorem dL_law_453 : decode cL_law 453 = .ok (.iconst 2, 1) := by decide +kernel
theorem dL_law_454 : decode cL_law 454 = .ok (.iadd, 1) := by decide +kernel
theorem dL_law_455 : decode cL_law 455 = .ok (.iaload, 1) := by decide +kernel
theorem dL_law_456 : decode cL_law 456 = .ok (.aload_n 0, 1) := by decide +kernel
theorem dL_law_457 : decode cL_law 457 = .ok (.iload_n 3, 1) := by decide +kernel
theorem dL_law_458 : decode cL_law 458 = .ok (.iconst 3, 1) := by decide +kernel
theorem dL_law_459 : decode cL_law 459 = .ok (.iadd, 1) := by decide +kernel
theorem dL_law_460 : decode cL_law 460 = .ok (.iaload, 1) := by decide +kernel
theorem dL_law_461 : decode cL_law 461 = .ok (.aload_n 0, 1) := by decide +kernel
theorem dL_law_462 : decode cL_law 462 = .ok (.iload_n 3, 1) := by decide +kernel
theorem dL_law_463 : decode cL_law 463 = .ok (.iconst 4, 1) := by decide +kernel
theorem dL_law_464 : decode cL_law 464 = .ok (.iadd, 1) := by decide +kernel
theorem dL_law_465 : decode cL_law 465 = .ok (.iaload, 1) := by decide +kernel
theorem dL_law_466 : decode cL_law 466 = .ok (.invokevirtual 53, 3) := by decide +kernel
theorem dL_law_469 : decode cL_law 469 = .ok (.pop, 1) := by decide +kernel
theorem dL_law_470 : decode cL_law 470 = .ok (.goto 991, 3) := by decide +kernel
theorem dL_law_473 : decode cL_law 473 = .ok (.aload_n 1, 1) := by decide +kernel
theorem dL_law_474 : decode cL_law 474 = .ok (.aload_n 0, 1) := by decide +kernel
theorem dL_law_475 : decode cL_law 475 = .ok (.iload_n 3, 1) := by decide +kernel
theorem dL_law_476 : decode cL_law 476 = .ok (.iconst 1, 1) := by decide +kernel
theorem dL_law_477 : decode cL_law 477 = .ok (.iadd, 1) := by decide +kernel
theorem dL_law_478 : decode cL_law 478 = .ok (.iaload, 1) := by decide +kernel
theorem dL_law_479 : decode cL_law 479 = .ok (.invokevirtual 54, 3) := by decide +kernel
theorem dL_law_482 : decode cL_law 482 = .ok (.pop, 1) := by decide +kernel
theorem dL_law_483 : decode cL_law 483 = .ok (.aload_n 2, 1) := by decide +kernel
theorem dL_law_484 : decode cL_law 484 = .ok (.aload_n 0, 1) := by decide +kernel
theorem dL_law_485 : decode cL_law 485 = .ok (.iload_n 3, 1) := by decide +kernel
theorem dL_law_486 : decode cL_law 486 = .ok (.iconst 1, 1) := by decide +kernel
theorem dL_law_487 : decode cL_law 487 = .ok (.iadd, 1) := by decide +kernel
theorem dL_law_488 : decode cL_law 488 = .ok (.iaload, 1) := by decide +kernel
theorem dL_law_489 : decode cL_law 489 = .ok (.invokevirtual 57, 3) := by decide +kernel
theorem dL_law_492 : decode cL_law 492 = .ok (.pop, 1) := by decide +kernel
theorem dL_law_493 : decode cL_law 493 = .ok (.goto 968, 3) := by decide +kernel
theorem dL_law_496 : decode cL_law 496 = .ok (.aload_n 1, 1) := by decide +kernel
theorem dL_law_497 : decode cL_law 497 = .ok (.aload_n 0, 1) := by decide +kernel
theorem dL_law_498 : decode cL_law 498 = .ok (.iload_n 3, 1) := by decide +kernel
theorem dL_law_499 : decode cL_law 499 = .ok (.iconst 1, 1) := by decide +kernel
theorem dL_law_500 : decode cL_law 500 = .ok (.iadd, 1) := by decide +kernel
theorem dL_law_501 : decode cL_law 501 = .ok (.iaload, 1) := by decide +kernel
theorem dL_law_502 : decode cL_law 502 = .ok (.invokevirtual 58, 3) := by decide +kernel
theorem dL_law_505 : decode cL_law 505 = .ok (.pop, 1) := by decide +kernel
theorem dL_law_506 : decode cL_law 506 = .ok (.aload_n 2, 1) := by decide +kernel
theorem dL_law_507 : decode cL_law 507 = .ok (.aload_n 0, 1) := by decide +kernel
theorem dL_law_508 : decode cL_law 508 = .ok (.iload_n 3, 1) := by decide +kernel
theorem dL_law_509 : decode cL_law 509 = .ok (.iconst 1, 1) := by decide +kernel
theorem dL_law_510 : decode cL_law 510 = .ok (.iadd, 1) := by decide +kernel
theorem dL_law_511 : decode cL_law 511 = .ok (.iaload, 1) := by decide +kernel
theorem dL_law_512 : decode cL_law 512 = .ok (.invokevirtual 61, 3) := by decide +kernel
theorem dL_law_515 : decode cL_law 515 = .ok (.pop, 1) := by decide +kernel
theorem dL_law_516 : decode cL_law 516 = .ok (.goto 945, 3) := by decide +kernel
theorem dL_law_519 : decode cL_law 519 = .ok (.aload_n 1, 1) := by decide +kernel
theorem dL_law_520 : decode cL_law 520 = .ok (.aload_n 0, 1) := by decide +kernel
theorem dL_law_521 : decode cL_law 521 = .ok (.iload_n 3, 1) := by decide +kernel
theorem dL_law_522 : decode cL_law 522 = .ok (.iconst 1, 1) := by decide +kernel
theorem dL_law_523 : decode cL_law 523 = .ok (.iadd, 1) := by decide +kernel
theorem dL_law_524 : decode cL_law 524 = .ok (.iaload, 1) := by decide +kernel
theorem dL_law_525 : decode cL_law 525 = .ok (.aload_n 0, 1) := by decide +kernel
theorem dL_law_526 : decode cL_law 526 = .ok (.iload_n 3, 1) := by decide +kernel
theorem dL_law_527 : decode cL_law 527 = .ok (.iconst 2, 1) := by decide +kernel
theorem dL_law_528 : decode cL_law 528 = .ok (.iadd, 1) := by decide +kernel
theorem dL_law_529 : decode cL_law 529 = .ok (.iaload, 1) := by decide +kernel
theorem dL_law_530 : decode cL_law 530 = .ok (.invokevirtual 62, 3) := by decide +kernel
theorem dL_law_533 : decode cL_law 533 = .ok (.pop, 1) := by decide +kernel
theorem dL_law_534 : decode cL_law 534 = .ok (.aload_n 2, 1) := by decide +kernel
theorem dL_law_535 : decode cL_law 535 = .ok (.aload_n 0, 1) := by decide +kernel
theorem dL_law_536 : decode cL_law 536 = .ok (.iload_n 3, 1) := by decide +kernel
theorem dL_law_537 : decode cL_law 537 = .ok (.iconst 1, 1) := by decide +kernel
theorem dL_law_538 : decode cL_law 538 = .ok (.iadd, 1) := by decide +kernel
theorem dL_law_539 : decode cL_law 539 = .ok (.iaload, 1) := by decide +kernel
theorem dL_law_540 : decode cL_law 540 = .ok (.aload_n 0, 1) := by decide +kernel
theorem dL_law_541 : decode cL_law 541 = .ok (.iload_n 3, 1) := by decide +kernel
theorem dL_law_542 : decode cL_law 542 = .ok (.iconst 2, 1) := by decide +kernel
theorem dL_law_543 : decode cL_law 543 = .ok (.iadd, 1) := by decide +kernel
theorem dL_law_544 : decode cL_law 544 = .ok (.iaload, 1) := by decide +kernel
theorem dL_law_545 : decode cL_law 545 = .ok (.invokevirtual 65, 3) := by decide +kernel
theorem dL_law_548 : decode cL_law 548 = .ok (.pop, 1) := by decide +kernel
theorem dL_law_549 : decode cL_law 549 = .ok (.goto 912, 3) := by decide +kernel
theorem dL_law_552 : decode cL_law 552 = .ok (.aload_n 1, 1) := by decide +kernel
theorem dL_law_553 : decode cL_law 553 = .ok (.aload_n 0, 1) := by decide +kernel
