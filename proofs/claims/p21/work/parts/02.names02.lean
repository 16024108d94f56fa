theorem dX7_keep_69 : decode cX7_keep 69 = .ok (.aload_n 0, 1) := by decide +kernel
theorem dX7_keep_70 : decode cX7_keep 70 = .ok (.getfield 77, 3) := by decide +kernel
theorem dX7_keep_73 : decode cX7_keep 73 = .ok (.invokevirtual 160, 3) := by decide +kernel
theorem dX7_keep_76 : decode cX7_keep 76 = .ok (.aload_n 0, 1) := by decide +kernel
theorem dX7_keep_77 : decode cX7_keep 77 = .ok (.getfield 80, 3) := by decide +kernel
theorem dX7_keep_80 : decode cX7_keep 80 = .ok (.if_icmp .ne 11, 3) := by decide +kernel
theorem dX7_keep_83 : decode cX7_keep 83 = .ok (.aload_n 0, 1) := by decide +kernel
theorem dX7_keep_84 : decode cX7_keep 84 = .ok (.aload_n 0, 1) := by decide +kernel
theorem dX7_keep_85 : decode cX7_keep 85 = .ok (.getfield 86, 3) := by decide +kernel
theorem dX7_keep_88 : decode cX7_keep 88 = .ok (.putfield 83, 3) := by decide +kernel
theorem dX7_keep_91 : decode cX7_keep 91 = .ok (.aload_n 0, 1) := by decide +kernel
theorem dX7_keep_92 : decode cX7_keep 92 = .ok (.dup, 1) := by decide +kernel
theorem dX7_keep_93 : decode cX7_keep 93 = .ok (.getfield 86, 3) := by decide +kernel
theorem dX7_keep_96 : decode cX7_keep 96 = .ok (.iconst 1, 1) := by decide +kernel
theorem dX7_keep_97 : decode cX7_keep 97 = .ok (.iadd, 1) := by decide +kernel
theorem dX7_keep_98 : decode cX7_keep 98 = .ok (.putfield 86, 3) := by decide +kernel
theorem dX7_keep_101 : decode cX7_keep 101 = .ok (.return_, 1) := by decide +kernel
theorem dX7_weightOf_0 : decode cX7_weightOf 0 = .ok (.iconst 2, 1) := by decide +kernel
theorem dX7_weightOf_1 : decode cX7_weightOf 1 = .ok (.iload_n 0, 1) := by decide +kernel
theorem dX7_weightOf_2 : decode cX7_weightOf 2 = .ok (.imul, 1) := by decide +kernel
theorem dX7_weightOf_3 : decode cX7_weightOf 3 = .ok (.iconst 1, 1) := by decide +kernel
theorem dX7_weightOf_4 : decode cX7_weightOf 4 = .ok (.iadd, 1) := by decide +kernel
theorem dX7_weightOf_5 : decode cX7_weightOf 5 = .ok (.ldc 163, 2) := by decide +kernel
theorem dX7_weightOf_7 : decode cX7_weightOf 7 = .ok (.imul, 1) := by decide +kernel
theorem dX7_weightOf_8 : decode cX7_weightOf 8 = .ok (.ireturn, 1) := by decide +kernel
theorem dX7_markOfScene_0 : decode cX7_markOfScene 0 = .ok (.iconst 0, 1) := by decide +kernel
theorem dX7_markOfScene_1 : decode cX7_markOfScene 1 = .ok (.istore_n 1, 1) := by decide +kernel
theorem dX7_markOfScene_2 : decode cX7_markOfScene 2 = .ok (.iconst 0, 1) := by decide +kernel
theorem dX7_markOfScene_3 : decode cX7_markOfScene 3 = .ok (.istore_n 2, 1) := by decide +kernel
theorem dX7_markOfScene_4 : decode cX7_markOfScene 4 = .ok (.iload_n 2, 1) := by decide +kernel
theorem dX7_markOfScene_5 : decode cX7_markOfScene 5 = .ok (.bipush 30, 2) := by decide +kernel
theorem dX7_markOfScene_7 : decode cX7_markOfScene 7 = .ok (.if_icmp .ge 26, 3) := by decide +kernel
theorem dX7_markOfScene_10 : decode cX7_markOfScene 10 = .ok (.iload_n 1, 1) := by decide +kernel
theorem dX7_markOfScene_11 : decode cX7_markOfScene 11 = .ok (.aload_n 0, 1) := by decide +kernel
theorem dX7_markOfScene_12 : decode cX7_markOfScene 12 = .ok (.getfield 39, 3) := by decide +kernel
theorem dX7_markOfScene_15 : decode cX7_markOfScene 15 = .ok (.getfield 65, 3) := by decide +kernel
theorem dX7_markOfScene_18 : decode cX7_markOfScene 18 = .ok (.iload_n 2, 1) := by decide +kernel
theorem dX7_markOfScene_19 : decode cX7_markOfScene 19 = .ok (.iaload, 1) := by decide +kernel
theorem dX7_markOfScene_20 : decode cX7_markOfScene 20 = .ok (.iload_n 2, 1) := by decide +kernel
theorem dX7_markOfScene_21 : decode cX7_markOfScene 21 = .ok (.invokestatic 154, 3) := by decide +kernel
theorem dX7_markOfScene_24 : decode cX7_markOfScene 24 = .ok (.imul, 1) := by decide +kernel
theorem dX7_markOfScene_25 : decode cX7_markOfScene 25 = .ok (.iadd, 1) := by decide +kernel
theorem dX7_markOfScene_26 : decode cX7_markOfScene 26 = .ok (.istore_n 1, 1) := by decide +kernel
theorem dX7_markOfScene_27 : decode cX7_markOfScene 27 = .ok (.iinc 2 1, 3) := by decide +kernel
theorem dX7_markOfScene_30 : decode cX7_markOfScene 30 = .ok (.goto (-26), 3) := by decide +kernel
theorem dX7_markOfScene_33 : decode cX7_markOfScene 33 = .ok (.iload_n 1, 1) := by decide +kernel
theorem dX7_markOfScene_34 : decode cX7_markOfScene 34 = .ok (.ireturn, 1) := by decide +kernel
theorem dX7_slotFor_0 : decode cX7_slotFor 0 = .ok (.iload_n 1, 1) := by decide +kernel
theorem dX7_slotFor_1 : decode cX7_slotFor 1 = .ok (.ldc 163, 2) := by decide +kernel
theorem dX7_slotFor_3 : decode cX7_slotFor 3 = .ok (.imul, 1) := by decide +kernel
theorem dX7_slotFor_4 : decode cX7_slotFor 4 = .ok (.bipush 22, 2) := by decide +kernel
theorem dX7_slotFor_6 : decode cX7_slotFor 6 = .ok (.iushr, 1) := by decide +kernel
theorem dX7_slotFor_7 : decode cX7_slotFor 7 = .ok (.istore_n 2, 1) := by decide +kernel
theorem dX7_slotFor_8 : decode cX7_slotFor 8 = .ok (.iconst 0, 1) := by decide +kernel
theorem dX7_slotFor_9 : decode cX7_slotFor 9 = .ok (.istore_n 3, 1) := by decide +kernel
theorem dX7_slotFor_10 : decode cX7_slotFor 10 = .ok (.iload_n 3, 1) := by decide +kernel
theorem dX7_slotFor_11 : decode cX7_slotFor 11 = .ok (.sipush 1024, 3) := by decide +kernel
theorem dX7_slotFor_14 : decode cX7_slotFor 14 = .ok (.if_icmp .ge 58, 3) := by decide +kernel
theorem dX7_slotFor_17 : decode cX7_slotFor 17 = .ok (.aload_n 0, 1) := by decide +kernel
theorem dX7_slotFor_18 : decode cX7_slotFor 18 = .ok (.getfield 18, 3) := by decide +kernel
theorem dX7_slotFor_21 : decode cX7_slotFor 21 = .ok (.iload_n 2, 1) := by decide +kernel
theorem dX7_slotFor_22 : decode cX7_slotFor 22 = .ok (.iaload, 1) := by decide +kernel
theorem dX7_slotFor_23 : decode cX7_slotFor 23 = .ok (.bipush (-9), 2) := by decide +kernel
theorem dX7_slotFor_25 : decode cX7_slotFor 25 = .ok (.if_icmp .eq 47, 3) := by decide +kernel
theorem dX7_slotFor_28 : decode cX7_slotFor 28 = .ok (.aload_n 0, 1) := by decide +kernel
theorem dX7_slotFor_29 : decode cX7_slotFor 29 = .ok (.getfield 15, 3) := by decide +kernel
theorem dX7_slotFor_32 : decode cX7_slotFor 32 = .ok (.aload_n 0, 1) := by decide +kernel
theorem dX7_slotFor_33 : decode cX7_slotFor 33 = .ok (.getfield 18, 3) := by decide +kernel
theorem dX7_slotFor_36 : decode cX7_slotFor 36 = .ok (.iload_n 2, 1) := by decide +kernel
theorem dX7_slotFor_37 : decode cX7_slotFor 37 = .ok (.iaload, 1) := by decide +kernel
theorem dX7_slotFor_38 : decode cX7_slotFor 38 = .ok (.iaload, 1) := by decide +kernel
theorem dX7_slotFor_39 : decode cX7_slotFor 39 = .ok (.iload_n 1, 1) := by decide +kernel
theorem dX7_slotFor_40 : decode cX7_slotFor 40 = .ok (.if_icmp .ne 18, 3) := by decide +kernel
theorem dX7_slotFor_43 : decode cX7_slotFor 43 = .ok (.aload_n 0, 1) := by decide +kernel
theorem dX7_slotFor_44 : decode cX7_slotFor 44 = .ok (.aload_n 0, 1) := by decide +kernel
theorem dX7_slotFor_45 : decode cX7_slotFor 45 = .ok (.getfield 18, 3) := by decide +kernel
theorem dX7_slotFor_48 : decode cX7_slotFor 48 = .ok (.iload_n 2, 1) := by decide +kernel
theorem dX7_slotFor_49 : decode cX7_slotFor 49 = .ok (.iaload, 1) := by decide +kernel
theorem dX7_slotFor_50 : decode cX7_slotFor 50 = .ok (.invokevirtual 164, 3) := by decide +kernel
theorem dX7_slotFor_53 : decode cX7_slotFor 53 = .ok (.ifCond .eq 5, 3) := by decide +kernel
theorem dX7_slotFor_56 : decode cX7_slotFor 56 = .ok (.iload_n 2, 1) := by decide +kernel
theorem dX7_slotFor_57 : decode cX7_slotFor 57 = .ok (.ireturn, 1) := by decide +kernel
theorem dX7_slotFor_58 : decode cX7_slotFor 58 = .ok (.iload_n 2, 1) := by decide +kernel
theorem dX7_slotFor_59 : decode cX7_slotFor 59 = .ok (.iconst 1, 1) := by decide +kernel
theorem dX7_slotFor_60 : decode cX7_slotFor 60 = .ok (.iadd, 1) := by decide +kernel
theorem dX7_slotFor_61 : decode cX7_slotFor 61 = .ok (.sipush 1023, 3) := by decide +kernel
theorem dX7_slotFor_64 : decode cX7_slotFor 64 = .ok (.iand, 1) := by decide +kernel
theorem dX7_slotFor_65 : decode cX7_slotFor 65 = .ok (.istore_n 2, 1) := by decide +kernel
theorem dX7_slotFor_66 : decode cX7_slotFor 66 = .ok (.iinc 3 1, 3) := by decide +kernel
theorem dX7_slotFor_69 : decode cX7_slotFor 69 = .ok (.goto (-59), 3) := by decide +kernel
theorem dX7_slotFor_72 : decode cX7_slotFor 72 = .ok (.iload_n 2, 1) := by decide +kernel
theorem dX7_slotFor_73 : decode cX7_slotFor 73 = .ok (.ireturn, 1) := by decide +kernel
theorem dX7_isScene_0 : decode cX7_isScene 0 = .ok (.iconst 0, 1) := by decide +kernel
theorem dX7_isScene_1 : decode cX7_isScene 1 = .ok (.istore_n 2, 1) := by decide +kernel
theorem dX7_isScene_2 : decode cX7_isScene 2 = .ok (.iload_n 2, 1) := by decide +kernel
theorem dX7_isScene_3 : decode cX7_isScene 3 = .ok (.aload_n 0, 1) := by decide +kernel
theorem dX7_isScene_4 : decode cX7_isScene 4 = .ok (.getfield 30, 3) := by decide +kernel
theorem dX7_isScene_7 : decode cX7_isScene 7 = .ok (.getfield 125, 3) := by decide +kernel
theorem dX7_isScene_10 : decode cX7_isScene 10 = .ok (.if_icmp .ge 34, 3) := by decide +kernel
theorem dX7_isScene_13 : decode cX7_isScene 13 = .ok (.aload_n 0, 1) := by decide +kernel
theorem dX7_isScene_14 : decode cX7_isScene 14 = .ok (.getfield 9, 3) := by decide +kernel
theorem dX7_isScene_17 : decode cX7_isScene 17 = .ok (.iload_n 1, 1) := by decide +kernel
theorem dX7_isScene_18 : decode cX7_isScene 18 = .ok (.bipush 30, 2) := by decide +kernel
theorem dX7_isScene_20 : decode cX7_isScene 20 = .ok (.imul, 1) := by decide +kernel
theorem dX7_isScene_21 : decode cX7_isScene 21 = .ok (.iload_n 2, 1) := by decide +kernel
theorem dX7_isScene_22 : decode cX7_isScene 22 = .ok (.iadd, 1) := by decide +kernel
theorem dX7_isScene_23 : decode cX7_isScene 23 = .ok (.iaload, 1) := by decide +kernel
theorem dX7_isScene_24 : decode cX7_isScene 24 = .ok (.aload_n 0, 1) := by decide +kernel
theorem dX7_isScene_25 : decode cX7_isScene 25 = .ok (.getfield 39, 3) := by decide +kernel
theorem dX7_isScene_28 : decode cX7_isScene 28 = .ok (.getfield 65, 3) := by decide +kernel
theorem dX7_isScene_31 : decode cX7_isScene 31 = .ok (.iload_n 2, 1) := by decide +kernel
theorem dX7_isScene_32 : decode cX7_isScene 32 = .ok (.iaload, 1) := by decide +kernel
theorem dX7_isScene_33 : decode cX7_isScene 33 = .ok (.if_icmp .eq 5, 3) := by decide +kernel
theorem dX7_isScene_36 : decode cX7_isScene 36 = .ok (.iconst 0, 1) := by decide +kernel
theorem dX7_isScene_37 : decode cX7_isScene 37 = .ok (.ireturn, 1) := by decide +kernel
theorem dX7_isScene_38 : decode cX7_isScene 38 = .ok (.iinc 2 1, 3) := by decide +kernel
theorem dX7_isScene_41 : decode cX7_isScene 41 = .ok (.goto (-39), 3) := by decide +kernel
theorem dX7_isScene_44 : decode cX7_isScene 44 = .ok (.iconst 1, 1) := by decide +kernel
theorem dX7_isScene_45 : decode cX7_isScene 45 = .ok (.ireturn, 1) := by decide +kernel
theorem dX7_tellPlay_0 : decode cX7_tellPlay 0 = .ok (.aload_n 0, 1) := by decide +kernel
theorem dX7_tellPlay_1 : decode cX7_tellPlay 1 = .ok (.getfield 83, 3) := by decide +kernel
theorem dX7_tellPlay_4 : decode cX7_tellPlay 4 = .ok (.bipush (-9), 2) := by decide +kernel
theorem dX7_tellPlay_6 : decode cX7_tellPlay 6 = .ok (.if_icmp .ne 10, 3) := by decide +kernel
theorem dX7_tellPlay_9 : decode cX7_tellPlay 9 = .ok (.aload_n 0, 1) := by decide +kernel
theorem dX7_tellPlay_10 : decode cX7_tellPlay 10 = .ok (.bipush (-9), 2) := by decide +kernel
theorem dX7_tellPlay_12 : decode cX7_tellPlay 12 = .ok (.putfield 61, 3) := by decide +kernel
theorem dX7_tellPlay_15 : decode cX7_tellPlay 15 = .ok (.return_, 1) := by decide +kernel
theorem dX7_tellPlay_16 : decode cX7_tellPlay 16 = .ok (.aload_n 0, 1) := by decide +kernel
theorem dX7_tellPlay_17 : decode cX7_tellPlay 17 = .ok (.iconst 0, 1) := by decide +kernel
theorem dX7_tellPlay_18 : decode cX7_tellPlay 18 = .ok (.putfield 61, 3) := by decide +kernel
theorem dX7_tellPlay_21 : decode cX7_tellPlay 21 = .ok (.aload_n 0, 1) := by decide +kernel
theorem dX7_tellPlay_22 : decode cX7_tellPlay 22 = .ok (.getfield 83, 3) := by decide +kernel
theorem dX7_tellPlay_25 : decode cX7_tellPlay 25 = .ok (.istore_n 1, 1) := by decide +kernel
theorem dX7_tellPlay_26 : decode cX7_tellPlay 26 = .ok (.iload_n 1, 1) := by decide +kernel
theorem dX7_tellPlay_27 : decode cX7_tellPlay 27 = .ok (.ifCond .le 33, 3) := by decide +kernel
theorem dX7_tellPlay_30 : decode cX7_tellPlay 30 = .ok (.aload_n 0, 1) := by decide +kernel
theorem dX7_tellPlay_31 : decode cX7_tellPlay 31 = .ok (.getfield 61, 3) := by decide +kernel
theorem dX7_tellPlay_34 : decode cX7_tellPlay 34 = .ok (.sipush 300, 3) := by decide +kernel
theorem dX7_tellPlay_37 : decode cX7_tellPlay 37 = .ok (.if_icmp .ge 23, 3) := by decide +kernel
theorem dX7_tellPlay_40 : decode cX7_tellPlay 40 = .ok (.aload_n 0, 1) := by decide +kernel
theorem dX7_tellPlay_41 : decode cX7_tellPlay 41 = .ok (.dup, 1) := by decide +kernel
theorem dX7_tellPlay_42 : decode cX7_tellPlay 42 = .ok (.getfield 61, 3) := by decide +kernel
theorem dX7_tellPlay_45 : decode cX7_tellPlay 45 = .ok (.iconst 1, 1) := by decide +kernel
theorem dX7_tellPlay_46 : decode cX7_tellPlay 46 = .ok (.iadd, 1) := by decide +kernel
theorem dX7_tellPlay_47 : decode cX7_tellPlay 47 = .ok (.putfield 61, 3) := by decide +kernel
theorem dX7_tellPlay_50 : decode cX7_tellPlay 50 = .ok (.aload_n 0, 1) := by decide +kernel
theorem dX7_tellPlay_51 : decode cX7_tellPlay 51 = .ok (.getfield 21, 3) := by decide +kernel
theorem dX7_tellPlay_54 : decode cX7_tellPlay 54 = .ok (.iload_n 1, 1) := by decide +kernel
theorem dX7_tellPlay_55 : decode cX7_tellPlay 55 = .ok (.iaload, 1) := by decide +kernel
theorem dX7_tellPlay_56 : decode cX7_tellPlay 56 = .ok (.istore_n 1, 1) := by decide +kernel
theorem dX7_tellPlay_57 : decode cX7_tellPlay 57 = .ok (.goto (-31), 3) := by decide +kernel
theorem dX7_tellPlay_60 : decode cX7_tellPlay 60 = .ok (.aload_n 0, 1) := by decide +kernel
theorem dX7_tellPlay_61 : decode cX7_tellPlay 61 = .ok (.getfield 83, 3) := by decide +kernel
theorem dX7_tellPlay_64 : decode cX7_tellPlay 64 = .ok (.istore_n 1, 1) := by decide +kernel
theorem dX7_tellPlay_65 : decode cX7_tellPlay 65 = .ok (.aload_n 0, 1) := by decide +kernel
theorem dX7_tellPlay_66 : decode cX7_tellPlay 66 = .ok (.getfield 61, 3) := by decide +kernel
theorem dX7_tellPlay_69 : decode cX7_tellPlay 69 = .ok (.iconst 1, 1) := by decide +kernel
theorem dX7_tellPlay_70 : decode cX7_tellPlay 70 = .ok (.isub, 1) := by decide +kernel
theorem dX7_tellPlay_71 : decode cX7_tellPlay 71 = .ok (.istore_n 2, 1) := by decide +kernel
theorem dX7_tellPlay_72 : decode cX7_tellPlay 72 = .ok (.iload_n 2, 1) := by decide +kernel
theorem dX7_tellPlay_73 : decode cX7_tellPlay 73 = .ok (.ifCond .lt 32, 3) := by decide +kernel
theorem dX7_tellPlay_76 : decode cX7_tellPlay 76 = .ok (.iload_n 1, 1) := by decide +kernel
theorem dX7_tellPlay_77 : decode cX7_tellPlay 77 = .ok (.ifCond .le 28, 3) := by decide +kernel
theorem dX7_tellPlay_80 : decode cX7_tellPlay 80 = .ok (.aload_n 0, 1) := by decide +kernel
theorem dX7_tellPlay_81 : decode cX7_tellPlay 81 = .ok (.getfield 27, 3) := by decide +kernel
theorem dX7_tellPlay_84 : decode cX7_tellPlay 84 = .ok (.iload_n 2, 1) := by decide +kernel
theorem dX7_tellPlay_85 : decode cX7_tellPlay 85 = .ok (.aload_n 0, 1) := by decide +kernel
theorem dX7_tellPlay_86 : decode cX7_tellPlay 86 = .ok (.getfield 24, 3) := by decide +kernel
theorem dX7_tellPlay_89 : decode cX7_tellPlay 89 = .ok (.iload_n 1, 1) := by decide +kernel
theorem dX7_tellPlay_90 : decode cX7_tellPlay 90 = .ok (.iaload, 1) := by decide +kernel
theorem dX7_tellPlay_91 : decode cX7_tellPlay 91 = .ok (.iastore, 1) := by decide +kernel
theorem dX7_tellPlay_92 : decode cX7_tellPlay 92 = .ok (.aload_n 0, 1) := by decide +kernel
theorem dX7_tellPlay_93 : decode cX7_tellPlay 93 = .ok (.getfield 21, 3) := by decide +kernel
theorem dX7_tellPlay_96 : decode cX7_tellPlay 96 = .ok (.iload_n 1, 1) := by decide +kernel
theorem dX7_tellPlay_97 : decode cX7_tellPlay 97 = .ok (.iaload, 1) := by decide +kernel
theorem dX7_tellPlay_98 : decode cX7_tellPlay 98 = .ok (.istore_n 1, 1) := by decide +kernel
theorem dX7_tellPlay_99 : decode cX7_tellPlay 99 = .ok (.iinc 2 (-1), 3) := by decide +kernel
theorem dX7_tellPlay_102 : decode cX7_tellPlay 102 = .ok (.goto (-30), 3) := by decide +kernel
theorem dX7_tellPlay_105 : decode cX7_tellPlay 105 = .ok (.return_, 1) := by decide +kernel
theorem dX8_init_0 : decode cX8_init 0 = .ok (.aload_n 0, 1) := by decide +kernel
theorem dX8_init_1 : decode cX8_init 1 = .ok (.invokespecial 3, 3) := by decide +kernel
theorem dX8_init_4 : decode cX8_init 4 = .ok (.aload_n 0, 1) := by decide +kernel
theorem dX8_init_5 : decode cX8_init 5 = .ok (.bipush 30, 2) := by decide +kernel
theorem dX8_init_7 : decode cX8_init 7 = .ok (.newarray .boolean, 2) := by decide +kernel
theorem dX8_init_9 : decode cX8_init 9 = .ok (.putfield 9, 3) := by decide +kernel
theorem dX8_init_12 : decode cX8_init 12 = .ok (.aload_n 0, 1) := by decide +kernel
theorem dX8_init_13 : decode cX8_init 13 = .ok (.bipush 30, 2) := by decide +kernel
theorem dX8_init_15 : decode cX8_init 15 = .ok (.newarray .boolean, 2) := by decide +kernel
theorem dX8_init_17 : decode cX8_init 17 = .ok (.putfield 15, 3) := by decide +kernel
theorem dX8_init_20 : decode cX8_init 20 = .ok (.aload_n 0, 1) := by decide +kernel
theorem dX8_init_21 : decode cX8_init 21 = .ok (.aload_n 1, 1) := by decide +kernel
theorem dX8_init_22 : decode cX8_init 22 = .ok (.putfield 18, 3) := by decide +kernel
theorem dX8_init_25 : decode cX8_init 25 = .ok (.aload_n 0, 1) := by decide +kernel
theorem dX8_init_26 : decode cX8_init 26 = .ok (.aload_n 2, 1) := by decide +kernel
theorem dX8_init_27 : decode cX8_init 27 = .ok (.putfield 22, 3) := by decide +kernel
theorem dX8_init_30 : decode cX8_init 30 = .ok (.aload_n 0, 1) := by decide +kernel
theorem dX8_init_31 : decode cX8_init 31 = .ok (.aload_n 3, 1) := by decide +kernel
theorem dX8_init_32 : decode cX8_init 32 = .ok (.putfield 26, 3) := by decide +kernel
theorem dX8_init_35 : decode cX8_init 35 = .ok (.return_, 1) := by decide +kernel
theorem dX8_look_0 : decode cX8_look 0 = .ok (.aload_n 0, 1) := by decide +kernel
theorem dX8_look_1 : decode cX8_look 1 = .ok (.iload_n 1, 1) := by decide +kernel
theorem dX8_look_2 : decode cX8_look 2 = .ok (.iconst 0, 1) := by decide +kernel
theorem dX8_look_3 : decode cX8_look 3 = .ok (.invokevirtual 30, 3) := by decide +kernel
theorem dX8_look_6 : decode cX8_look 6 = .ok (.istore_n 2, 1) := by decide +kernel
theorem dX8_look_7 : decode cX8_look 7 = .ok (.aload_n 0, 1) := by decide +kernel
theorem dX8_look_8 : decode cX8_look 8 = .ok (.iload_n 1, 1) := by decide +kernel
theorem dX8_look_9 : decode cX8_look 9 = .ok (.iconst 1, 1) := by decide +kernel
theorem dX8_look_10 : decode cX8_look 10 = .ok (.invokevirtual 30, 3) := by decide +kernel
theorem dX8_look_13 : decode cX8_look 13 = .ok (.istore_n 3, 1) := by decide +kernel
theorem dX8_look_14 : decode cX8_look 14 = .ok (.aload_n 0, 1) := by decide +kernel
theorem dX8_look_15 : decode cX8_look 15 = .ok (.aload_n 0, 1) := by decide +kernel
theorem dX8_look_16 : decode cX8_look 16 = .ok (.getfield 18, 3) := by decide +kernel
theorem dX8_look_19 : decode cX8_look 19 = .ok (.iload_n 2, 1) := by decide +kernel
theorem dX8_look_20 : decode cX8_look 20 = .ok (.invokevirtual 34, 3) := by decide +kernel
theorem dX8_look_23 : decode cX8_look 23 = .ok (.ifCond .ne 19, 3) := by decide +kernel
theorem dX8_look_26 : decode cX8_look 26 = .ok (.aload_n 0, 1) := by decide +kernel
theorem dX8_look_27 : decode cX8_look 27 = .ok (.getfield 26, 3) := by decide +kernel
theorem dX8_look_30 : decode cX8_look 30 = .ok (.iload_n 2, 1) := by decide +kernel
theorem dX8_look_31 : decode cX8_look 31 = .ok (.iconst 2, 1) := by decide +kernel
theorem dX8_look_32 : decode cX8_look 32 = .ok (.invokevirtual 40, 3) := by decide +kernel
theorem dX8_look_35 : decode cX8_look 35 = .ok (.ifCond .eq 7, 3) := by decide +kernel
theorem dX8_look_38 : decode cX8_look 38 = .ok (.iconst 1, 1) := by decide +kernel
theorem dX8_look_39 : decode cX8_look 39 = .ok (.goto 4, 3) := by decide +kernel
theorem dX8_look_42 : decode cX8_look 42 = .ok (.iconst 0, 1) := by decide +kernel
theorem dX8_look_43 : decode cX8_look 43 = .ok (.putfield 46, 3) := by decide +kernel
theorem dX8_look_46 : decode cX8_look 46 = .ok (.iconst 0, 1) := by decide +kernel
theorem dX8_look_47 : decode cX8_look 47 = .ok (.istore 4, 2) := by decide +kernel
theorem dX8_look_49 : decode cX8_look 49 = .ok (.iload 4, 2) := by decide +kernel
theorem dX8_look_51 : decode cX8_look 51 = .ok (.aload_n 0, 1) := by decide +kernel
theorem dX8_look_52 : decode cX8_look 52 = .ok (.getfield 18, 3) := by decide +kernel
theorem dX8_look_55 : decode cX8_look 55 = .ok (.getfield 50, 3) := by decide +kernel
theorem dX8_look_58 : decode cX8_look 58 = .ok (.if_icmp .ge 77, 3) := by decide +kernel
theorem dX8_look_61 : decode cX8_look 61 = .ok (.aload_n 0, 1) := by decide +kernel
theorem dX8_look_62 : decode cX8_look 62 = .ok (.getfield 9, 3) := by decide +kernel
theorem dX8_look_65 : decode cX8_look 65 = .ok (.iload 4, 2) := by decide +kernel
theorem dX8_look_67 : decode cX8_look 67 = .ok (.iload 4, 2) := by decide +kernel
theorem dX8_look_69 : decode cX8_look 69 = .ok (.iload_n 1, 1) := by decide +kernel
theorem dX8_look_70 : decode cX8_look 70 = .ok (.if_icmp .eq 14, 3) := by decide +kernel
theorem dX8_look_73 : decode cX8_look 73 = .ok (.aload_n 0, 1) := by decide +kernel
theorem dX8_look_74 : decode cX8_look 74 = .ok (.iload 4, 2) := by decide +kernel
theorem dX8_look_76 : decode cX8_look 76 = .ok (.iload_n 2, 1) := by decide +kernel
theorem dX8_look_77 : decode cX8_look 77 = .ok (.iconst 0, 1) := by decide +kernel
theorem dX8_look_78 : decode cX8_look 78 = .ok (.invokevirtual 54, 3) := by decide +kernel
theorem dX8_look_81 : decode cX8_look 81 = .ok (.ifCond .eq 7, 3) := by decide +kernel
theorem dX8_look_84 : decode cX8_look 84 = .ok (.iconst 1, 1) := by decide +kernel
theorem dX8_look_85 : decode cX8_look 85 = .ok (.goto 4, 3) := by decide +kernel
theorem dX8_look_88 : decode cX8_look 88 = .ok (.iconst 0, 1) := by decide +kernel
theorem dX8_look_89 : decode cX8_look 89 = .ok (.bastore, 1) := by decide +kernel
theorem dX8_look_90 : decode cX8_look 90 = .ok (.aload_n 0, 1) := by decide +kernel
theorem dX8_look_91 : decode cX8_look 91 = .ok (.aload_n 0, 1) := by decide +kernel
theorem dX8_look_92 : decode cX8_look 92 = .ok (.getfield 46, 3) := by decide +kernel
theorem dX8_look_95 : decode cX8_look 95 = .ok (.ifCond .ne 26, 3) := by decide +kernel
theorem dX8_look_98 : decode cX8_look 98 = .ok (.aload_n 0, 1) := by decide +kernel
theorem dX8_look_99 : decode cX8_look 99 = .ok (.getfield 9, 3) := by decide +kernel
theorem dX8_look_102 : decode cX8_look 102 = .ok (.iload 4, 2) := by decide +kernel
theorem dX8_look_104 : decode cX8_look 104 = .ok (.baload, 1) := by decide +kernel
theorem dX8_look_105 : decode cX8_look 105 = .ok (.ifCond .eq 20, 3) := by decide +kernel
theorem dX8_look_108 : decode cX8_look 108 = .ok (.aload_n 0, 1) := by decide +kernel
theorem dX8_look_109 : decode cX8_look 109 = .ok (.getfield 26, 3) := by decide +kernel
theorem dX8_look_112 : decode cX8_look 112 = .ok (.iload 4, 2) := by decide +kernel
theorem dX8_look_114 : decode cX8_look 114 = .ok (.iconst 2, 1) := by decide +kernel
theorem dX8_look_115 : decode cX8_look 115 = .ok (.invokevirtual 40, 3) := by decide +kernel
theorem dX8_look_118 : decode cX8_look 118 = .ok (.ifCond .eq 7, 3) := by decide +kernel
theorem dX8_look_121 : decode cX8_look 121 = .ok (.iconst 1, 1) := by decide +kernel
theorem dX8_look_122 : decode cX8_look 122 = .ok (.goto 4, 3) := by decide +kernel
theorem dX8_look_125 : decode cX8_look 125 = .ok (.iconst 0, 1) := by decide +kernel
theorem dX8_look_126 : decode cX8_look 126 = .ok (.putfield 46, 3) := by decide +kernel
theorem dX8_look_129 : decode cX8_look 129 = .ok (.iinc 4 1, 3) := by decide +kernel
theorem dX8_look_132 : decode cX8_look 132 = .ok (.goto (-83), 3) := by decide +kernel
theorem dX8_look_135 : decode cX8_look 135 = .ok (.iconst 0, 1) := by decide +kernel
theorem dX8_look_136 : decode cX8_look 136 = .ok (.istore 4, 2) := by decide +kernel
theorem dX8_look_138 : decode cX8_look 138 = .ok (.iload 4, 2) := by decide +kernel
theorem dX8_look_140 : decode cX8_look 140 = .ok (.aload_n 0, 1) := by decide +kernel
theorem dX8_look_141 : decode cX8_look 141 = .ok (.getfield 18, 3) := by decide +kernel
theorem dX8_look_144 : decode cX8_look 144 = .ok (.getfield 50, 3) := by decide +kernel
theorem dX8_look_147 : decode cX8_look 147 = .ok (.if_icmp .ge 117, 3) := by decide +kernel
theorem dX8_look_150 : decode cX8_look 150 = .ok (.aload_n 0, 1) := by decide +kernel
theorem dX8_look_151 : decode cX8_look 151 = .ok (.getfield 26, 3) := by decide +kernel
theorem dX8_look_154 : decode cX8_look 154 = .ok (.iload 4, 2) := by decide +kernel
theorem dX8_look_156 : decode cX8_look 156 = .ok (.iconst 2, 1) := by decide +kernel
theorem dX8_look_157 : decode cX8_look 157 = .ok (.iload_n 1, 1) := by decide +kernel
theorem dX8_look_158 : decode cX8_look 158 = .ok (.invokevirtual 58, 3) := by decide +kernel
theorem dX8_look_161 : decode cX8_look 161 = .ok (.ifCond .ne 17, 3) := by decide +kernel
theorem dX8_look_164 : decode cX8_look 164 = .ok (.aload_n 0, 1) := by decide +kernel
theorem dX8_look_165 : decode cX8_look 165 = .ok (.getfield 26, 3) := by decide +kernel
theorem dX8_look_168 : decode cX8_look 168 = .ok (.iload 4, 2) := by decide +kernel
theorem dX8_look_170 : decode cX8_look 170 = .ok (.iconst 3, 1) := by decide +kernel
theorem dX8_look_171 : decode cX8_look 171 = .ok (.iload_n 1, 1) := by decide +kernel
theorem dX8_look_172 : decode cX8_look 172 = .ok (.invokevirtual 58, 3) := by decide +kernel
theorem dX8_look_175 : decode cX8_look 175 = .ok (.ifCond .eq 7, 3) := by decide +kernel
theorem dX8_look_178 : decode cX8_look 178 = .ok (.iconst 1, 1) := by decide +kernel
theorem dX8_look_179 : decode cX8_look 179 = .ok (.goto 4, 3) := by decide +kernel
theorem dX8_look_182 : decode cX8_look 182 = .ok (.iconst 0, 1) := by decide +kernel
theorem dX8_look_183 : decode cX8_look 183 = .ok (.istore 5, 2) := by decide +kernel
theorem dX8_look_185 : decode cX8_look 185 = .ok (.aload_n 0, 1) := by decide +kernel
theorem dX8_look_186 : decode cX8_look 186 = .ok (.getfield 9, 3) := by decide +kernel
theorem dX8_look_189 : decode cX8_look 189 = .ok (.iload 4, 2) := by decide +kernel
theorem dX8_look_191 : decode cX8_look 191 = .ok (.iload 5, 2) := by decide +kernel
theorem dX8_look_193 : decode cX8_look 193 = .ok (.ifCond .ne 20, 3) := by decide +kernel
theorem dX8_look_196 : decode cX8_look 196 = .ok (.aload_n 0, 1) := by decide +kernel
theorem dX8_look_197 : decode cX8_look 197 = .ok (.getfield 46, 3) := by decide +kernel
theorem dX8_look_200 : decode cX8_look 200 = .ok (.ifCond .eq 17, 3) := by decide +kernel
theorem dX8_look_203 : decode cX8_look 203 = .ok (.aload_n 0, 1) := by decide +kernel
theorem dX8_look_204 : decode cX8_look 204 = .ok (.getfield 9, 3) := by decide +kernel
theorem dX8_look_207 : decode cX8_look 207 = .ok (.iload 4, 2) := by decide +kernel
theorem dX8_look_209 : decode cX8_look 209 = .ok (.baload, 1) := by decide +kernel
theorem dX8_look_210 : decode cX8_look 210 = .ok (.ifCond .eq 7, 3) := by decide +kernel
theorem dX8_look_213 : decode cX8_look 213 = .ok (.iconst 1, 1) := by decide +kernel
theorem dX8_look_214 : decode cX8_look 214 = .ok (.goto 4, 3) := by decide +kernel
theorem dX8_look_217 : decode cX8_look 217 = .ok (.iconst 0, 1) := by decide +kernel
theorem dX8_look_218 : decode cX8_look 218 = .ok (.bastore, 1) := by decide +kernel
theorem dX8_look_219 : decode cX8_look 219 = .ok (.aload_n 0, 1) := by decide +kernel
theorem dX8_look_220 : decode cX8_look 220 = .ok (.getfield 15, 3) := by decide +kernel
theorem dX8_look_223 : decode cX8_look 223 = .ok (.iload 4, 2) := by decide +kernel
theorem dX8_look_225 : decode cX8_look 225 = .ok (.aload_n 0, 1) := by decide +kernel
theorem dX8_look_226 : decode cX8_look 226 = .ok (.getfield 9, 3) := by decide +kernel
theorem dX8_look_229 : decode cX8_look 229 = .ok (.iload 4, 2) := by decide +kernel
theorem dX8_look_231 : decode cX8_look 231 = .ok (.baload, 1) := by decide +kernel
theorem dX8_look_232 : decode cX8_look 232 = .ok (.ifCond .eq 24, 3) := by decide +kernel
theorem dX8_look_235 : decode cX8_look 235 = .ok (.iload 4, 2) := by decide +kernel
theorem dX8_look_237 : decode cX8_look 237 = .ok (.iload_n 1, 1) := by decide +kernel
theorem dX8_look_238 : decode cX8_look 238 = .ok (.if_icmp .eq 14, 3) := by decide +kernel
theorem dX8_look_241 : decode cX8_look 241 = .ok (.aload_n 0, 1) := by decide +kernel
theorem dX8_look_242 : decode cX8_look 242 = .ok (.iload 4, 2) := by decide +kernel
theorem dX8_look_244 : decode cX8_look 244 = .ok (.iload_n 3, 1) := by decide +kernel
theorem dX8_look_245 : decode cX8_look 245 = .ok (.iconst 1, 1) := by decide +kernel
theorem dX8_look_246 : decode cX8_look 246 = .ok (.invokevirtual 54, 3) := by decide +kernel
theorem dX8_look_249 : decode cX8_look 249 = .ok (.ifCond .eq 7, 3) := by decide +kernel
theorem dX8_look_252 : decode cX8_look 252 = .ok (.iconst 1, 1) := by decide +kernel
theorem dX8_look_253 : decode cX8_look 253 = .ok (.goto 4, 3) := by decide +kernel
theorem dX8_look_256 : decode cX8_look 256 = .ok (.iconst 0, 1) := by decide +kernel
theorem dX8_look_257 : decode cX8_look 257 = .ok (.bastore, 1) := by decide +kernel
theorem dX8_look_258 : decode cX8_look 258 = .ok (.iinc 4 1, 3) := by decide +kernel
theorem dX8_look_261 : decode cX8_look 261 = .ok (.goto (-123), 3) := by decide +kernel
theorem dX8_look_264 : decode cX8_look 264 = .ok (.return_, 1) := by decide +kernel
theorem dX8_isCover_0 : decode cX8_isCover 0 = .ok (.aload_n 0, 1) := by decide +kernel
theorem dX8_isCover_1 : decode cX8_isCover 1 = .ok (.getfield 18, 3) := by decide +kernel
theorem dX8_isCover_4 : decode cX8_isCover 4 = .ok (.iload_n 1, 1) := by decide +kernel
theorem dX8_isCover_5 : decode cX8_isCover 5 = .ok (.invokevirtual 34, 3) := by decide +kernel
theorem dX8_isCover_8 : decode cX8_isCover 8 = .ok (.iconst 3, 1) := by decide +kernel
theorem dX8_isCover_9 : decode cX8_isCover 9 = .ok (.if_icmp .ne 35, 3) := by decide +kernel
theorem dX8_isCover_12 : decode cX8_isCover 12 = .ok (.aload_n 0, 1) := by decide +kernel
theorem dX8_isCover_13 : decode cX8_isCover 13 = .ok (.getfield 26, 3) := by decide +kernel
theorem dX8_isCover_16 : decode cX8_isCover 16 = .ok (.iload_n 1, 1) := by decide +kernel
theorem dX8_isCover_17 : decode cX8_isCover 17 = .ok (.iconst 0, 1) := by decide +kernel
theorem dX8_isCover_18 : decode cX8_isCover 18 = .ok (.invokevirtual 40, 3) := by decide +kernel
theorem dX8_isCover_21 : decode cX8_isCover 21 = .ok (.ifCond .ne 23, 3) := by decide +kernel
theorem dX8_isCover_24 : decode cX8_isCover 24 = .ok (.iload_n 2, 1) := by decide +kernel
theorem dX8_isCover_25 : decode cX8_isCover 25 = .ok (.ifCond .ne 15, 3) := by decide +kernel
theorem dX8_isCover_28 : decode cX8_isCover 28 = .ok (.aload_n 0, 1) := by decide +kernel
theorem dX8_isCover_29 : decode cX8_isCover 29 = .ok (.getfield 26, 3) := by decide +kernel
theorem dX8_isCover_32 : decode cX8_isCover 32 = .ok (.iload_n 1, 1) := by decide +kernel
theorem dX8_isCover_33 : decode cX8_isCover 33 = .ok (.iconst 5, 1) := by decide +kernel
theorem dX8_isCover_34 : decode cX8_isCover 34 = .ok (.invokevirtual 40, 3) := by decide +kernel
theorem dX8_isCover_37 : decode cX8_isCover 37 = .ok (.ifCond .ne 7, 3) := by decide +kernel
theorem dX8_isCover_40 : decode cX8_isCover 40 = .ok (.iconst 1, 1) := by decide +kernel
theorem dX8_isCover_41 : decode cX8_isCover 41 = .ok (.goto 4, 3) := by decide +kernel
theorem dX8_isCover_44 : decode cX8_isCover 44 = .ok (.iconst 0, 1) := by decide +kernel
theorem dX8_isCover_45 : decode cX8_isCover 45 = .ok (.ireturn, 1) := by decide +kernel
theorem dX8_shellOf_0 : decode cX8_shellOf 0 = .ok (.aload_n 0, 1) := by decide +kernel
theorem dX8_shellOf_1 : decode cX8_shellOf 1 = .ok (.getfield 26, 3) := by decide +kernel
theorem dX8_shellOf_4 : decode cX8_shellOf 4 = .ok (.iload_n 1, 1) := by decide +kernel
theorem dX8_shellOf_5 : decode cX8_shellOf 5 = .ok (.invokevirtual 62, 3) := by decide +kernel
theorem dX8_shellOf_8 : decode cX8_shellOf 8 = .ok (.istore_n 3, 1) := by decide +kernel
theorem dX8_shellOf_9 : decode cX8_shellOf 9 = .ok (.iconst 0, 1) := by decide +kernel
theorem dX8_shellOf_10 : decode cX8_shellOf 10 = .ok (.istore 4, 2) := by decide +kernel
theorem dX8_shellOf_12 : decode cX8_shellOf 12 = .ok (.iload 4, 2) := by decide +kernel
theorem dX8_shellOf_14 : decode cX8_shellOf 14 = .ok (.bipush 30, 2) := by decide +kernel
theorem dX8_shellOf_16 : decode cX8_shellOf 16 = .ok (.if_icmp .ge 46, 3) := by decide +kernel
theorem dX8_shellOf_19 : decode cX8_shellOf 19 = .ok (.iload_n 3, 1) := by decide +kernel
theorem dX8_shellOf_20 : decode cX8_shellOf 20 = .ok (.bipush (-9), 2) := by decide +kernel
theorem dX8_shellOf_22 : decode cX8_shellOf 22 = .ok (.if_icmp .eq 40, 3) := by decide +kernel
theorem dX8_shellOf_25 : decode cX8_shellOf 25 = .ok (.aload_n 0, 1) := by decide +kernel
theorem dX8_shellOf_26 : decode cX8_shellOf 26 = .ok (.getfield 18, 3) := by decide +kernel
theorem dX8_shellOf_29 : decode cX8_shellOf 29 = .ok (.iload_n 3, 1) := by decide +kernel
theorem dX8_shellOf_30 : decode cX8_shellOf 30 = .ok (.invokevirtual 34, 3) := by decide +kernel
theorem dX8_shellOf_33 : decode cX8_shellOf 33 = .ok (.ifCond .eq 12, 3) := by decide +kernel
theorem dX8_shellOf_36 : decode cX8_shellOf 36 = .ok (.aload_n 0, 1) := by decide +kernel
theorem dX8_shellOf_37 : decode cX8_shellOf 37 = .ok (.iload_n 3, 1) := by decide +kernel
theorem dX8_shellOf_38 : decode cX8_shellOf 38 = .ok (.iload_n 2, 1) := by decide +kernel
theorem dX8_shellOf_39 : decode cX8_shellOf 39 = .ok (.invokevirtual 65, 3) := by decide +kernel
theorem dX8_shellOf_42 : decode cX8_shellOf 42 = .ok (.ifCond .eq 5, 3) := by decide +kernel
theorem dX8_shellOf_45 : decode cX8_shellOf 45 = .ok (.iload_n 3, 1) := by decide +kernel
theorem dX8_shellOf_46 : decode cX8_shellOf 46 = .ok (.ireturn, 1) := by decide +kernel
theorem dX8_shellOf_47 : decode cX8_shellOf 47 = .ok (.aload_n 0, 1) := by decide +kernel
theorem dX8_shellOf_48 : decode cX8_shellOf 48 = .ok (.getfield 26, 3) := by decide +kernel
theorem dX8_shellOf_51 : decode cX8_shellOf 51 = .ok (.iload_n 3, 1) := by decide +kernel
theorem dX8_shellOf_52 : decode cX8_shellOf 52 = .ok (.invokevirtual 62, 3) := by decide +kernel
theorem dX8_shellOf_55 : decode cX8_shellOf 55 = .ok (.istore_n 3, 1) := by decide +kernel
theorem dX8_shellOf_56 : decode cX8_shellOf 56 = .ok (.iinc 4 1, 3) := by decide +kernel
theorem dX8_shellOf_59 : decode cX8_shellOf 59 = .ok (.goto (-47), 3) := by decide +kernel
theorem dX8_shellOf_62 : decode cX8_shellOf 62 = .ok (.bipush (-9), 2) := by decide +kernel
theorem dX8_shellOf_64 : decode cX8_shellOf 64 = .ok (.ireturn, 1) := by decide +kernel
theorem dX8_isInView_0 : decode cX8_isInView 0 = .ok (.iload_n 1, 1) := by decide +kernel
theorem dX8_isInView_1 : decode cX8_isInView 1 = .ok (.iload_n 2, 1) := by decide +kernel
theorem dX8_isInView_2 : decode cX8_isInView 2 = .ok (.if_icmp .ne 21, 3) := by decide +kernel
theorem dX8_isInView_5 : decode cX8_isInView 5 = .ok (.aload_n 0, 1) := by decide +kernel
theorem dX8_isInView_6 : decode cX8_isInView 6 = .ok (.getfield 18, 3) := by decide +kernel
theorem dX8_isInView_9 : decode cX8_isInView 9 = .ok (.iload_n 2, 1) := by decide +kernel
theorem dX8_isInView_10 : decode cX8_isInView 10 = .ok (.invokevirtual 34, 3) := by decide +kernel
theorem dX8_isInView_13 : decode cX8_isInView 13 = .ok (.iconst 3, 1) := by decide +kernel
theorem dX8_isInView_14 : decode cX8_isInView 14 = .ok (.if_icmp .ne 7, 3) := by decide +kernel
theorem dX8_isInView_17 : decode cX8_isInView 17 = .ok (.iconst 1, 1) := by decide +kernel
theorem dX8_isInView_18 : decode cX8_isInView 18 = .ok (.goto 4, 3) := by decide +kernel
theorem dX8_isInView_21 : decode cX8_isInView 21 = .ok (.iconst 0, 1) := by decide +kernel
theorem dX8_isInView_22 : decode cX8_isInView 22 = .ok (.ireturn, 1) := by decide +kernel
theorem dX8_isInView_23 : decode cX8_isInView 23 = .ok (.aload_n 0, 1) := by decide +kernel
theorem dX8_isInView_24 : decode cX8_isInView 24 = .ok (.getfield 18, 3) := by decide +kernel
theorem dX8_isInView_27 : decode cX8_isInView 27 = .ok (.iload_n 1, 1) := by decide +kernel
theorem dX8_isInView_28 : decode cX8_isInView 28 = .ok (.invokevirtual 34, 3) := by decide +kernel
theorem dX8_isInView_31 : decode cX8_isInView 31 = .ok (.iconst 2, 1) := by decide +kernel
theorem dX8_isInView_32 : decode cX8_isInView 32 = .ok (.if_icmp .ne 13, 3) := by decide +kernel
theorem dX8_isInView_35 : decode cX8_isInView 35 = .ok (.aload_n 0, 1) := by decide +kernel
theorem dX8_isInView_36 : decode cX8_isInView 36 = .ok (.getfield 22, 3) := by decide +kernel
theorem dX8_isInView_39 : decode cX8_isInView 39 = .ok (.iload_n 2, 1) := by decide +kernel
theorem dX8_isInView_40 : decode cX8_isInView 40 = .ok (.iload_n 1, 1) := by decide +kernel
theorem dX8_isInView_41 : decode cX8_isInView 41 = .ok (.invokevirtual 69, 3) := by decide +kernel
theorem dX8_isInView_44 : decode cX8_isInView 44 = .ok (.ireturn, 1) := by decide +kernel
theorem dX8_isInView_45 : decode cX8_isInView 45 = .ok (.aload_n 0, 1) := by decide +kernel
theorem dX8_isInView_46 : decode cX8_isInView 46 = .ok (.getfield 26, 3) := by decide +kernel
theorem dX8_isInView_49 : decode cX8_isInView 49 = .ok (.iload_n 1, 1) := by decide +kernel
theorem dX8_isInView_50 : decode cX8_isInView 50 = .ok (.invokevirtual 62, 3) := by decide +kernel
theorem dX8_isInView_53 : decode cX8_isInView 53 = .ok (.istore 4, 2) := by decide +kernel
theorem dX8_isInView_55 : decode cX8_isInView 55 = .ok (.iconst 0, 1) := by decide +kernel
theorem dX8_isInView_56 : decode cX8_isInView 56 = .ok (.istore 5, 2) := by decide +kernel
theorem dX8_isInView_58 : decode cX8_isInView 58 = .ok (.iload 5, 2) := by decide +kernel
theorem dX8_isInView_60 : decode cX8_isInView 60 = .ok (.bipush 30, 2) := by decide +kernel
theorem dX8_isInView_62 : decode cX8_isInView 62 = .ok (.if_icmp .ge 47, 3) := by decide +kernel
theorem dX8_isInView_65 : decode cX8_isInView 65 = .ok (.iload 4, 2) := by decide +kernel
theorem dX8_isInView_67 : decode cX8_isInView 67 = .ok (.bipush (-9), 2) := by decide +kernel
theorem dX8_isInView_69 : decode cX8_isInView 69 = .ok (.if_icmp .eq 40, 3) := by decide +kernel
theorem dX8_isInView_72 : decode cX8_isInView 72 = .ok (.iload 4, 2) := by decide +kernel
theorem dX8_isInView_74 : decode cX8_isInView 74 = .ok (.iload_n 2, 1) := by decide +kernel
theorem dX8_isInView_75 : decode cX8_isInView 75 = .ok (.if_icmp .ne 5, 3) := by decide +kernel
theorem dX8_isInView_78 : decode cX8_isInView 78 = .ok (.iconst 1, 1) := by decide +kernel
theorem dX8_isInView_79 : decode cX8_isInView 79 = .ok (.ireturn, 1) := by decide +kernel
theorem dX8_isInView_80 : decode cX8_isInView 80 = .ok (.aload_n 0, 1) := by decide +kernel
theorem dX8_isInView_81 : decode cX8_isInView 81 = .ok (.iload 4, 2) := by decide +kernel
theorem dX8_isInView_83 : decode cX8_isInView 83 = .ok (.iload_n 3, 1) := by decide +kernel
theorem dX8_isInView_84 : decode cX8_isInView 84 = .ok (.invokevirtual 65, 3) := by decide +kernel
theorem dX8_isInView_87 : decode cX8_isInView 87 = .ok (.ifCond .eq 5, 3) := by decide +kernel
theorem dX8_isInView_90 : decode cX8_isInView 90 = .ok (.iconst 0, 1) := by decide +kernel
theorem dX8_isInView_91 : decode cX8_isInView 91 = .ok (.ireturn, 1) := by decide +kernel
theorem dX8_isInView_92 : decode cX8_isInView 92 = .ok (.aload_n 0, 1) := by decide +kernel
theorem dX8_isInView_93 : decode cX8_isInView 93 = .ok (.getfield 26, 3) := by decide +kernel
theorem dX8_isInView_96 : decode cX8_isInView 96 = .ok (.iload 4, 2) := by decide +kernel
theorem dX8_isInView_98 : decode cX8_isInView 98 = .ok (.invokevirtual 62, 3) := by decide +kernel
theorem dX8_isInView_101 : decode cX8_isInView 101 = .ok (.istore 4, 2) := by decide +kernel
theorem dX8_isInView_103 : decode cX8_isInView 103 = .ok (.iinc 5 1, 3) := by decide +kernel
theorem dX8_isInView_106 : decode cX8_isInView 106 = .ok (.goto (-48), 3) := by decide +kernel
theorem dX8_isInView_109 : decode cX8_isInView 109 = .ok (.iconst 0, 1) := by decide +kernel
theorem dX8_isInView_110 : decode cX8_isInView 110 = .ok (.ireturn, 1) := by decide +kernel
theorem dX9_init_0 : decode cX9_init 0 = .ok (.aload_n 0, 1) := by decide +kernel
theorem dX9_init_1 : decode cX9_init 1 = .ok (.invokespecial 3, 3) := by decide +kernel
theorem dX9_init_4 : decode cX9_init 4 = .ok (.aload_n 0, 1) := by decide +kernel
theorem dX9_init_5 : decode cX9_init 5 = .ok (.bipush 100, 2) := by decide +kernel
theorem dX9_init_7 : decode cX9_init 7 = .ok (.newarray .int, 2) := by decide +kernel
theorem dX9_init_9 : decode cX9_init 9 = .ok (.putfield 9, 3) := by decide +kernel
theorem dX9_init_12 : decode cX9_init 12 = .ok (.aload_n 0, 1) := by decide +kernel
theorem dX9_init_13 : decode cX9_init 13 = .ok (.bipush 100, 2) := by decide +kernel
theorem dX9_init_15 : decode cX9_init 15 = .ok (.newarray .int, 2) := by decide +kernel
theorem dX9_init_17 : decode cX9_init 17 = .ok (.putfield 15, 3) := by decide +kernel
theorem dX9_init_20 : decode cX9_init 20 = .ok (.aload_n 0, 1) := by decide +kernel
theorem dX9_init_21 : decode cX9_init 21 = .ok (.bipush 100, 2) := by decide +kernel
theorem dX9_init_23 : decode cX9_init 23 = .ok (.newarray .int, 2) := by decide +kernel
theorem dX9_init_25 : decode cX9_init 25 = .ok (.putfield 18, 3) := by decide +kernel
theorem dX9_init_28 : decode cX9_init 28 = .ok (.aload_n 0, 1) := by decide +kernel
theorem dX9_init_29 : decode cX9_init 29 = .ok (.aload_n 1, 1) := by decide +kernel
theorem dX9_init_30 : decode cX9_init 30 = .ok (.putfield 21, 3) := by decide +kernel
theorem dX9_init_33 : decode cX9_init 33 = .ok (.aload_n 0, 1) := by decide +kernel
theorem dX9_init_34 : decode cX9_init 34 = .ok (.aload_n 2, 1) := by decide +kernel
theorem dX9_init_35 : decode cX9_init 35 = .ok (.putfield 25, 3) := by decide +kernel
theorem dX9_init_38 : decode cX9_init 38 = .ok (.aload_n 0, 1) := by decide +kernel
theorem dX9_init_39 : decode cX9_init 39 = .ok (.new 29, 3) := by decide +kernel
theorem dX9_init_42 : decode cX9_init 42 = .ok (.dup, 1) := by decide +kernel
theorem dX9_init_43 : decode cX9_init 43 = .ok (.aload_n 1, 1) := by decide +kernel
theorem dX9_init_44 : decode cX9_init 44 = .ok (.invokespecial 31, 3) := by decide +kernel
theorem dX9_init_47 : decode cX9_init 47 = .ok (.putfield 34, 3) := by decide +kernel
theorem dX9_init_50 : decode cX9_init 50 = .ok (.aload_n 0, 1) := by decide +kernel
theorem dX9_init_51 : decode cX9_init 51 = .ok (.new 38, 3) := by decide +kernel
theorem dX9_init_54 : decode cX9_init 54 = .ok (.dup, 1) := by decide +kernel
theorem dX9_init_55 : decode cX9_init 55 = .ok (.aload_n 1, 1) := by decide +kernel
theorem dX9_init_56 : decode cX9_init 56 = .ok (.aload_n 3, 1) := by decide +kernel
theorem dX9_init_57 : decode cX9_init 57 = .ok (.aload_n 0, 1) := by decide +kernel
theorem dX9_init_58 : decode cX9_init 58 = .ok (.getfield 34, 3) := by decide +kernel
theorem dX9_init_61 : decode cX9_init 61 = .ok (.invokespecial 40, 3) := by decide +kernel
theorem dX9_init_64 : decode cX9_init 64 = .ok (.putfield 43, 3) := by decide +kernel
theorem dX9_init_67 : decode cX9_init 67 = .ok (.aload_n 0, 1) := by decide +kernel
theorem dX9_init_68 : decode cX9_init 68 = .ok (.new 47, 3) := by decide +kernel
theorem dX9_init_71 : decode cX9_init 71 = .ok (.dup, 1) := by decide +kernel
theorem dX9_init_72 : decode cX9_init 72 = .ok (.aload_n 1, 1) := by decide +kernel
theorem dX9_init_73 : decode cX9_init 73 = .ok (.aload_n 2, 1) := by decide +kernel
theorem dX9_init_74 : decode cX9_init 74 = .ok (.aload_n 3, 1) := by decide +kernel
theorem dX9_init_75 : decode cX9_init 75 = .ok (.aload 4, 2) := by decide +kernel
theorem dX9_init_77 : decode cX9_init 77 = .ok (.aload_n 0, 1) := by decide +kernel
theorem dX9_init_78 : decode cX9_init 78 = .ok (.getfield 43, 3) := by decide +kernel
theorem dX9_init_81 : decode cX9_init 81 = .ok (.invokespecial 49, 3) := by decide +kernel
theorem dX9_init_84 : decode cX9_init 84 = .ok (.putfield 52, 3) := by decide +kernel
theorem dX9_init_87 : decode cX9_init 87 = .ok (.aload_n 0, 1) := by decide +kernel
theorem dX9_init_88 : decode cX9_init 88 = .ok (.bipush (-9), 2) := by decide +kernel
theorem dX9_init_90 : decode cX9_init 90 = .ok (.putfield 56, 3) := by decide +kernel
theorem dX9_init_93 : decode cX9_init 93 = .ok (.return_, 1) := by decide +kernel
theorem dX9_start_0 : decode cX9_start 0 = .ok (.iconst 0, 1) := by decide +kernel
theorem dX9_start_1 : decode cX9_start 1 = .ok (.istore_n 2, 1) := by decide +kernel
theorem dX9_start_2 : decode cX9_start 2 = .ok (.iload_n 2, 1) := by decide +kernel
theorem dX9_start_3 : decode cX9_start 3 = .ok (.aload_n 0, 1) := by decide +kernel
theorem dX9_start_4 : decode cX9_start 4 = .ok (.getfield 21, 3) := by decide +kernel
theorem dX9_start_7 : decode cX9_start 7 = .ok (.getfield 60, 3) := by decide +kernel
theorem dX9_start_10 : decode cX9_start 10 = .ok (.if_icmp .ge 23, 3) := by decide +kernel
theorem dX9_start_13 : decode cX9_start 13 = .ok (.aload_n 0, 1) := by decide +kernel
theorem dX9_start_14 : decode cX9_start 14 = .ok (.getfield 34, 3) := by decide +kernel
theorem dX9_start_17 : decode cX9_start 17 = .ok (.getfield 65, 3) := by decide +kernel
theorem dX9_start_20 : decode cX9_start 20 = .ok (.iload_n 2, 1) := by decide +kernel
theorem dX9_start_21 : decode cX9_start 21 = .ok (.aload_n 0, 1) := by decide +kernel
theorem dX9_start_22 : decode cX9_start 22 = .ok (.iload_n 2, 1) := by decide +kernel
theorem dX9_start_23 : decode cX9_start 23 = .ok (.invokevirtual 68, 3) := by decide +kernel
theorem dX9_start_26 : decode cX9_start 26 = .ok (.iastore, 1) := by decide +kernel
theorem dX9_start_27 : decode cX9_start 27 = .ok (.iinc 2 1, 3) := by decide +kernel
theorem dX9_start_30 : decode cX9_start 30 = .ok (.goto (-28), 3) := by decide +kernel
theorem dX9_start_33 : decode cX9_start 33 = .ok (.aload_n 0, 1) := by decide +kernel
theorem dX9_start_34 : decode cX9_start 34 = .ok (.iconst 1, 1) := by decide +kernel
theorem dX9_start_35 : decode cX9_start 35 = .ok (.putfield 72, 3) := by decide +kernel
theorem dX9_start_38 : decode cX9_start 38 = .ok (.aload_n 0, 1) := by decide +kernel
theorem dX9_start_39 : decode cX9_start 39 = .ok (.iload_n 1, 1) := by decide +kernel
theorem dX9_start_40 : decode cX9_start 40 = .ok (.putfield 56, 3) := by decide +kernel
theorem dX9_start_43 : decode cX9_start 43 = .ok (.aload_n 0, 1) := by decide +kernel
theorem dX9_start_44 : decode cX9_start 44 = .ok (.getfield 52, 3) := by decide +kernel
theorem dX9_start_47 : decode cX9_start 47 = .ok (.iload_n 1, 1) := by decide +kernel
theorem dX9_start_48 : decode cX9_start 48 = .ok (.putfield 76, 3) := by decide +kernel
theorem dX9_start_51 : decode cX9_start 51 = .ok (.aload_n 0, 1) := by decide +kernel
theorem dX9_start_52 : decode cX9_start 52 = .ok (.iconst 0, 1) := by decide +kernel
theorem dX9_start_53 : decode cX9_start 53 = .ok (.putfield 77, 3) := by decide +kernel
theorem dX9_start_56 : decode cX9_start 56 = .ok (.aload_n 0, 1) := by decide +kernel
theorem dX9_start_57 : decode cX9_start 57 = .ok (.getfield 43, 3) := by decide +kernel
theorem dX9_start_60 : decode cX9_start 60 = .ok (.aload_n 0, 1) := by decide +kernel
theorem dX9_start_61 : decode cX9_start 61 = .ok (.getfield 56, 3) := by decide +kernel
theorem dX9_start_64 : decode cX9_start 64 = .ok (.invokevirtual 80, 3) := by decide +kernel
theorem dX9_start_67 : decode cX9_start 67 = .ok (.return_, 1) := by decide +kernel
theorem dX9_cellAsSaid_0 : decode cX9_cellAsSaid 0 = .ok (.aload_n 0, 1) := by decide +kernel
theorem dX9_cellAsSaid_1 : decode cX9_cellAsSaid 1 = .ok (.getfield 25, 3) := by decide +kernel
theorem dX9_cellAsSaid_4 : decode cX9_cellAsSaid 4 = .ok (.getfield 84, 3) := by decide +kernel
theorem dX9_cellAsSaid_7 : decode cX9_cellAsSaid 7 = .ok (.getfield 65, 3) := by decide +kernel
theorem dX9_cellAsSaid_10 : decode cX9_cellAsSaid 10 = .ok (.iload_n 1, 1) := by decide +kernel
theorem dX9_cellAsSaid_11 : decode cX9_cellAsSaid 11 = .ok (.iaload, 1) := by decide +kernel
theorem dX9_cellAsSaid_12 : decode cX9_cellAsSaid 12 = .ok (.istore_n 2, 1) := by decide +kernel
theorem dX9_cellAsSaid_13 : decode cX9_cellAsSaid 13 = .ok (.iconst 0, 1) := by decide +kernel
theorem dX9_cellAsSaid_14 : decode cX9_cellAsSaid 14 = .ok (.istore_n 3, 1) := by decide +kernel
theorem dX9_cellAsSaid_15 : decode cX9_cellAsSaid 15 = .ok (.iload_n 3, 1) := by decide +kernel
theorem dX9_cellAsSaid_16 : decode cX9_cellAsSaid 16 = .ok (.bipush 6, 2) := by decide +kernel
theorem dX9_cellAsSaid_18 : decode cX9_cellAsSaid 18 = .ok (.if_icmp .ge 45, 3) := by decide +kernel
theorem dX9_cellAsSaid_21 : decode cX9_cellAsSaid 21 = .ok (.aload_n 0, 1) := by decide +kernel
theorem dX9_cellAsSaid_22 : decode cX9_cellAsSaid 22 = .ok (.getfield 21, 3) := by decide +kernel
theorem dX9_cellAsSaid_25 : decode cX9_cellAsSaid 25 = .ok (.iload_n 1, 1) := by decide +kernel
theorem dX9_cellAsSaid_26 : decode cX9_cellAsSaid 26 = .ok (.iload_n 3, 1) := by decide +kernel
theorem dX9_cellAsSaid_27 : decode cX9_cellAsSaid 27 = .ok (.invokevirtual 89, 3) := by decide +kernel
theorem dX9_cellAsSaid_30 : decode cX9_cellAsSaid 30 = .ok (.ifCond .eq 27, 3) := by decide +kernel
theorem dX9_cellAsSaid_33 : decode cX9_cellAsSaid 33 = .ok (.iload_n 2, 1) := by decide +kernel
theorem dX9_cellAsSaid_34 : decode cX9_cellAsSaid 34 = .ok (.iload_n 3, 1) := by decide +kernel
theorem dX9_cellAsSaid_35 : decode cX9_cellAsSaid 35 = .ok (.aload_n 0, 1) := by decide +kernel
theorem dX9_cellAsSaid_36 : decode cX9_cellAsSaid 36 = .ok (.getfield 25, 3) := by decide +kernel
theorem dX9_cellAsSaid_39 : decode cX9_cellAsSaid 39 = .ok (.iload_n 1, 1) := by decide +kernel
theorem dX9_cellAsSaid_40 : decode cX9_cellAsSaid 40 = .ok (.iload_n 3, 1) := by decide +kernel
theorem dX9_cellAsSaid_41 : decode cX9_cellAsSaid 41 = .ok (.invokevirtual 93, 3) := by decide +kernel
theorem dX9_cellAsSaid_44 : decode cX9_cellAsSaid 44 = .ok (.iconst 1, 1) := by decide +kernel
theorem dX9_cellAsSaid_45 : decode cX9_cellAsSaid 45 = .ok (.if_icmp .ne 7, 3) := by decide +kernel
theorem dX9_cellAsSaid_48 : decode cX9_cellAsSaid 48 = .ok (.iconst 1, 1) := by decide +kernel
theorem dX9_cellAsSaid_49 : decode cX9_cellAsSaid 49 = .ok (.goto 4, 3) := by decide +kernel
theorem dX9_cellAsSaid_52 : decode cX9_cellAsSaid 52 = .ok (.iconst 0, 1) := by decide +kernel
theorem dX9_cellAsSaid_53 : decode cX9_cellAsSaid 53 = .ok (.invokestatic 97, 3) := by decide +kernel
theorem dX9_cellAsSaid_56 : decode cX9_cellAsSaid 56 = .ok (.istore_n 2, 1) := by decide +kernel
theorem dX9_cellAsSaid_57 : decode cX9_cellAsSaid 57 = .ok (.iinc 3 1, 3) := by decide +kernel
theorem dX9_cellAsSaid_60 : decode cX9_cellAsSaid 60 = .ok (.goto (-45), 3) := by decide +kernel
theorem dX9_cellAsSaid_63 : decode cX9_cellAsSaid 63 = .ok (.iload_n 2, 1) := by decide +kernel
theorem dX9_cellAsSaid_64 : decode cX9_cellAsSaid 64 = .ok (.ireturn, 1) := by decide +kernel
theorem dX9_end_0 : decode cX9_end 0 = .ok (.aload_n 0, 1) := by decide +kernel
theorem dX9_end_1 : decode cX9_end 1 = .ok (.iconst 0, 1) := by decide +kernel
theorem dX9_end_2 : decode cX9_end 2 = .ok (.putfield 72, 3) := by decide +kernel
theorem dX9_end_5 : decode cX9_end 5 = .ok (.aload_n 0, 1) := by decide +kernel
theorem dX9_end_6 : decode cX9_end 6 = .ok (.iconst 0, 1) := by decide +kernel
theorem dX9_end_7 : decode cX9_end 7 = .ok (.putfield 77, 3) := by decide +kernel
theorem dX9_end_10 : decode cX9_end 10 = .ok (.return_, 1) := by decide +kernel
theorem dX9_isAct_0 : decode cX9_isAct 0 = .ok (.iload_n 1, 1) := by decide +kernel
theorem dX9_isAct_1 : decode cX9_isAct 1 = .ok (.ifCond .lt 9, 3) := by decide +kernel
theorem dX9_isAct_4 : decode cX9_isAct 4 = .ok (.iload_n 1, 1) := by decide +kernel
theorem dX9_isAct_5 : decode cX9_isAct 5 = .ok (.bipush 12, 2) := by decide +kernel
theorem dX9_isAct_7 : decode cX9_isAct 7 = .ok (.if_icmp .le 5, 3) := by decide +kernel
theorem dX9_isAct_10 : decode cX9_isAct 10 = .ok (.iconst 0, 1) := by decide +kernel
theorem dX9_isAct_11 : decode cX9_isAct 11 = .ok (.ireturn, 1) := by decide +kernel
theorem dX9_isAct_12 : decode cX9_isAct 12 = .ok (.iload_n 1, 1) := by decide +kernel
theorem dX9_isAct_13 : decode cX9_isAct 13 = .ok (.ifCond .ne 10, 3) := by decide +kernel
theorem dX9_isAct_16 : decode cX9_isAct 16 = .ok (.iload_n 2, 1) := by decide +kernel
theorem dX9_isAct_17 : decode cX9_isAct 17 = .ok (.bipush 10, 2) := by decide +kernel
theorem dX9_isAct_19 : decode cX9_isAct 19 = .ok (.invokestatic 101, 3) := by decide +kernel
theorem dX9_isAct_22 : decode cX9_isAct 22 = .ok (.ireturn, 1) := by decide +kernel
theorem dX9_isAct_23 : decode cX9_isAct 23 = .ok (.iload_n 1, 1) := by decide +kernel
theorem dX9_isAct_24 : decode cX9_isAct 24 = .ok (.invokestatic 104, 3) := by decide +kernel
theorem dX9_isAct_27 : decode cX9_isAct 27 = .ok (.ifCond .eq 14, 3) := by decide +kernel
theorem dX9_isAct_30 : decode cX9_isAct 30 = .ok (.aload_n 0, 1) := by decide +kernel
theorem dX9_isAct_31 : decode cX9_isAct 31 = .ok (.getfield 21, 3) := by decide +kernel
theorem dX9_isAct_34 : decode cX9_isAct 34 = .ok (.iload_n 2, 1) := by decide +kernel
theorem dX9_isAct_35 : decode cX9_isAct 35 = .ok (.invokevirtual 108, 3) := by decide +kernel
theorem dX9_isAct_38 : decode cX9_isAct 38 = .ok (.ifCond .eq 25, 3) := by decide +kernel
theorem dX9_isAct_41 : decode cX9_isAct 41 = .ok (.iload_n 1, 1) := by decide +kernel
theorem dX9_isAct_42 : decode cX9_isAct 42 = .ok (.invokestatic 111, 3) := by decide +kernel
theorem dX9_isAct_45 : decode cX9_isAct 45 = .ok (.ifCond .eq 14, 3) := by decide +kernel
theorem dX9_isAct_48 : decode cX9_isAct 48 = .ok (.aload_n 0, 1) := by decide +kernel
theorem dX9_isAct_49 : decode cX9_isAct 49 = .ok (.getfield 21, 3) := by decide +kernel
theorem dX9_isAct_52 : decode cX9_isAct 52 = .ok (.iload_n 3, 1) := by decide +kernel
theorem dX9_isAct_53 : decode cX9_isAct 53 = .ok (.invokevirtual 108, 3) := by decide +kernel
theorem dX9_isAct_56 : decode cX9_isAct 56 = .ok (.ifCond .eq 7, 3) := by decide +kernel
theorem dX9_isAct_59 : decode cX9_isAct 59 = .ok (.iconst 1, 1) := by decide +kernel
theorem dX9_isAct_60 : decode cX9_isAct 60 = .ok (.goto 4, 3) := by decide +kernel
theorem dX9_isAct_63 : decode cX9_isAct 63 = .ok (.iconst 0, 1) := by decide +kernel
theorem dX9_isAct_64 : decode cX9_isAct 64 = .ok (.ireturn, 1) := by decide +kernel
theorem dX9_play_0 : decode cX9_play 0 = .ok (.aload_n 0, 1) := by decide +kernel
theorem dX9_play_1 : decode cX9_play 1 = .ok (.getfield 52, 3) := by decide +kernel
theorem dX9_play_4 : decode cX9_play 4 = .ok (.iload_n 1, 1) := by decide +kernel
theorem dX9_play_5 : decode cX9_play 5 = .ok (.iload_n 2, 1) := by decide +kernel
theorem dX9_play_6 : decode cX9_play 6 = .ok (.invokevirtual 114, 3) := by decide +kernel
theorem dX9_play_9 : decode cX9_play 9 = .ok (.istore 4, 2) := by decide +kernel
theorem dX9_play_11 : decode cX9_play 11 = .ok (.iload 4, 2) := by decide +kernel
theorem dX9_play_13 : decode cX9_play 13 = .ok (.ifCond .ne 15, 3) := by decide +kernel
theorem dX9_play_16 : decode cX9_play 16 = .ok (.aload_n 0, 1) := by decide +kernel
theorem dX9_play_17 : decode cX9_play 17 = .ok (.getfield 52, 3) := by decide +kernel
theorem dX9_play_20 : decode cX9_play 20 = .ok (.iload_n 1, 1) := by decide +kernel
theorem dX9_play_21 : decode cX9_play 21 = .ok (.iload_n 2, 1) := by decide +kernel
theorem dX9_play_22 : decode cX9_play 22 = .ok (.iload_n 3, 1) := by decide +kernel
theorem dX9_play_23 : decode cX9_play 23 = .ok (.invokevirtual 117, 3) := by decide +kernel
theorem dX9_play_26 : decode cX9_play 26 = .ok (.istore 4, 2) := by decide +kernel
theorem dX9_play_28 : decode cX9_play 28 = .ok (.iload 4, 2) := by decide +kernel
theorem dX9_play_30 : decode cX9_play 30 = .ok (.ifCond .ne 10, 3) := by decide +kernel
theorem dX9_play_33 : decode cX9_play 33 = .ok (.aload_n 0, 1) := by decide +kernel
theorem dX9_play_34 : decode cX9_play 34 = .ok (.iload_n 1, 1) := by decide +kernel
theorem dX9_play_35 : decode cX9_play 35 = .ok (.iload_n 2, 1) := by decide +kernel
theorem dX9_play_36 : decode cX9_play 36 = .ok (.iload_n 3, 1) := by decide +kernel
theorem dX9_play_37 : decode cX9_play 37 = .ok (.invokevirtual 121, 3) := by decide +kernel
theorem dX9_play_40 : decode cX9_play 40 = .ok (.iload 4, 2) := by decide +kernel
theorem dX9_play_42 : decode cX9_play 42 = .ok (.ireturn, 1) := by decide +kernel
theorem dX9_doIt_0 : decode cX9_doIt 0 = .ok (.aload_n 0, 1) := by decide +kernel
theorem dX9_doIt_1 : decode cX9_doIt 1 = .ok (.getfield 52, 3) := by decide +kernel
theorem dX9_doIt_4 : decode cX9_doIt 4 = .ok (.iload_n 1, 1) := by decide +kernel
theorem dX9_doIt_5 : decode cX9_doIt 5 = .ok (.iload_n 2, 1) := by decide +kernel
theorem dX9_doIt_6 : decode cX9_doIt 6 = .ok (.invokevirtual 125, 3) := by decide +kernel
theorem dX9_doIt_9 : decode cX9_doIt 9 = .ok (.istore 4, 2) := by decide +kernel
theorem dX9_doIt_11 : decode cX9_doIt 11 = .ok (.aload_n 0, 1) := by decide +kernel
theorem dX9_doIt_12 : decode cX9_doIt 12 = .ok (.getfield 9, 3) := by decide +kernel
theorem dX9_doIt_15 : decode cX9_doIt 15 = .ok (.aload_n 0, 1) := by decide +kernel
theorem dX9_doIt_16 : decode cX9_doIt 16 = .ok (.getfield 77, 3) := by decide +kernel
theorem dX9_doIt_19 : decode cX9_doIt 19 = .ok (.iload_n 1, 1) := by decide +kernel
theorem dX9_doIt_20 : decode cX9_doIt 20 = .ok (.iload_n 1, 1) := by decide +kernel
theorem dX9_doIt_21 : decode cX9_doIt 21 = .ok (.invokestatic 104, 3) := by decide +kernel
theorem dX9_doIt_24 : decode cX9_doIt 24 = .ok (.ifCond .eq 7, 3) := by decide +kernel
theorem dX9_doIt_27 : decode cX9_doIt 27 = .ok (.iload_n 2, 1) := by decide +kernel
theorem dX9_doIt_28 : decode cX9_doIt 28 = .ok (.goto 4, 3) := by decide +kernel
theorem dX9_doIt_31 : decode cX9_doIt 31 = .ok (.iconst 0, 1) := by decide +kernel
theorem dX9_doIt_32 : decode cX9_doIt 32 = .ok (.iload_n 1, 1) := by decide +kernel
theorem dX9_doIt_33 : decode cX9_doIt 33 = .ok (.invokestatic 111, 3) := by decide +kernel
theorem dX9_doIt_36 : decode cX9_doIt 36 = .ok (.ifCond .eq 7, 3) := by decide +kernel
theorem dX9_doIt_39 : decode cX9_doIt 39 = .ok (.iload_n 3, 1) := by decide +kernel
theorem dX9_doIt_40 : decode cX9_doIt 40 = .ok (.goto 4, 3) := by decide +kernel
theorem dX9_doIt_43 : decode cX9_doIt 43 = .ok (.iconst 0, 1) := by decide +kernel
theorem dX9_doIt_44 : decode cX9_doIt 44 = .ok (.invokestatic 128, 3) := by decide +kernel
theorem dX9_doIt_47 : decode cX9_doIt 47 = .ok (.iastore, 1) := by decide +kernel
theorem dX9_doIt_48 : decode cX9_doIt 48 = .ok (.aload_n 0, 1) := by decide +kernel
theorem dX9_doIt_49 : decode cX9_doIt 49 = .ok (.getfield 15, 3) := by decide +kernel
theorem dX9_doIt_52 : decode cX9_doIt 52 = .ok (.aload_n 0, 1) := by decide +kernel
theorem dX9_doIt_53 : decode cX9_doIt 53 = .ok (.getfield 77, 3) := by decide +kernel
theorem dX9_doIt_56 : decode cX9_doIt 56 = .ok (.iload 4, 2) := by decide +kernel
theorem dX9_doIt_58 : decode cX9_doIt 58 = .ok (.iastore, 1) := by decide +kernel
theorem dX9_doIt_59 : decode cX9_doIt 59 = .ok (.aload_n 0, 1) := by decide +kernel
theorem dX9_doIt_60 : decode cX9_doIt 60 = .ok (.getfield 18, 3) := by decide +kernel
theorem dX9_doIt_63 : decode cX9_doIt 63 = .ok (.aload_n 0, 1) := by decide +kernel
theorem dX9_doIt_64 : decode cX9_doIt 64 = .ok (.getfield 77, 3) := by decide +kernel
theorem dX9_doIt_67 : decode cX9_doIt 67 = .ok (.aload_n 0, 1) := by decide +kernel
theorem dX9_doIt_68 : decode cX9_doIt 68 = .ok (.getfield 34, 3) := by decide +kernel
theorem dX9_doIt_71 : decode cX9_doIt 71 = .ok (.getfield 65, 3) := by decide +kernel
theorem dX9_doIt_74 : decode cX9_doIt 74 = .ok (.iload 4, 2) := by decide +kernel
theorem dX9_doIt_76 : decode cX9_doIt 76 = .ok (.iaload, 1) := by decide +kernel
theorem dX9_doIt_77 : decode cX9_doIt 77 = .ok (.iastore, 1) := by decide +kernel
theorem dX9_doIt_78 : decode cX9_doIt 78 = .ok (.aload_n 0, 1) := by decide +kernel
theorem dX9_doIt_79 : decode cX9_doIt 79 = .ok (.dup, 1) := by decide +kernel
theorem dX9_doIt_80 : decode cX9_doIt 80 = .ok (.getfield 77, 3) := by decide +kernel
theorem dX9_doIt_83 : decode cX9_doIt 83 = .ok (.iconst 1, 1) := by decide +kernel
theorem dX9_doIt_84 : decode cX9_doIt 84 = .ok (.iadd, 1) := by decide +kernel
theorem dX9_doIt_85 : decode cX9_doIt 85 = .ok (.putfield 77, 3) := by decide +kernel
theorem dX9_doIt_88 : decode cX9_doIt 88 = .ok (.aload_n 0, 1) := by decide +kernel
theorem dX9_doIt_89 : decode cX9_doIt 89 = .ok (.getfield 34, 3) := by decide +kernel
theorem dX9_doIt_92 : decode cX9_doIt 92 = .ok (.getfield 65, 3) := by decide +kernel
theorem dX9_doIt_95 : decode cX9_doIt 95 = .ok (.iload 4, 2) := by decide +kernel
theorem dX9_doIt_97 : decode cX9_doIt 97 = .ok (.aload_n 0, 1) := by decide +kernel
theorem dX9_doIt_98 : decode cX9_doIt 98 = .ok (.getfield 52, 3) := by decide +kernel
theorem dX9_doIt_101 : decode cX9_doIt 101 = .ok (.iload_n 1, 1) := by decide +kernel
theorem dX9_doIt_102 : decode cX9_doIt 102 = .ok (.iload_n 2, 1) := by decide +kernel
theorem dX9_doIt_103 : decode cX9_doIt 103 = .ok (.iload_n 3, 1) := by decide +kernel
theorem dX9_doIt_104 : decode cX9_doIt 104 = .ok (.invokevirtual 131, 3) := by decide +kernel
theorem dX9_doIt_107 : decode cX9_doIt 107 = .ok (.iastore, 1) := by decide +kernel
theorem dX9_doIt_108 : decode cX9_doIt 108 = .ok (.aload_n 0, 1) := by decide +kernel
theorem dX9_doIt_109 : decode cX9_doIt 109 = .ok (.getfield 43, 3) := by decide +kernel
theorem dX9_doIt_112 : decode cX9_doIt 112 = .ok (.aload_n 0, 1) := by decide +kernel
theorem dX9_doIt_113 : decode cX9_doIt 113 = .ok (.getfield 56, 3) := by decide +kernel
theorem dX9_doIt_116 : decode cX9_doIt 116 = .ok (.invokevirtual 80, 3) := by decide +kernel
theorem dX9_doIt_119 : decode cX9_doIt 119 = .ok (.return_, 1) := by decide +kernel
theorem dX9_undo_0 : decode cX9_undo 0 = .ok (.aload_n 0, 1) := by decide +kernel
theorem dX9_undo_1 : decode cX9_undo 1 = .ok (.dup, 1) := by decide +kernel
theorem dX9_undo_2 : decode cX9_undo 2 = .ok (.getfield 77, 3) := by decide +kernel
theorem dX9_undo_5 : decode cX9_undo 5 = .ok (.iconst 1, 1) := by decide +kernel
theorem dX9_undo_6 : decode cX9_undo 6 = .ok (.isub, 1) := by decide +kernel
theorem dX9_undo_7 : decode cX9_undo 7 = .ok (.putfield 77, 3) := by decide +kernel
theorem dX9_undo_10 : decode cX9_undo 10 = .ok (.aload_n 0, 1) := by decide +kernel
theorem dX9_undo_11 : decode cX9_undo 11 = .ok (.getfield 34, 3) := by decide +kernel
theorem dX9_undo_14 : decode cX9_undo 14 = .ok (.getfield 65, 3) := by decide +kernel
theorem dX9_undo_17 : decode cX9_undo 17 = .ok (.aload_n 0, 1) := by decide +kernel
theorem dX9_undo_18 : decode cX9_undo 18 = .ok (.getfield 15, 3) := by decide +kernel
theorem dX9_undo_21 : decode cX9_undo 21 = .ok (.aload_n 0, 1) := by decide +kernel
theorem dX9_undo_22 : decode cX9_undo 22 = .ok (.getfield 77, 3) := by decide +kernel
theorem dX9_undo_25 : decode cX9_undo 25 = .ok (.iaload, 1) := by decide +kernel
theorem dX9_undo_26 : decode cX9_undo 26 = .ok (.aload_n 0, 1) := by decide +kernel
theorem dX9_undo_27 : decode cX9_undo 27 = .ok (.getfield 18, 3) := by decide +kernel
theorem dX9_undo_30 : decode cX9_undo 30 = .ok (.aload_n 0, 1) := by decide +kernel
theorem dX9_undo_31 : decode cX9_undo 31 = .ok (.getfield 77, 3) := by decide +kernel
theorem dX9_undo_34 : decode cX9_undo 34 = .ok (.iaload, 1) := by decide +kernel
theorem dX9_undo_35 : decode cX9_undo 35 = .ok (.iastore, 1) := by decide +kernel
theorem dX9_undo_36 : decode cX9_undo 36 = .ok (.aload_n 0, 1) := by decide +kernel
theorem dX9_undo_37 : decode cX9_undo 37 = .ok (.getfield 43, 3) := by decide +kernel
theorem dX9_undo_40 : decode cX9_undo 40 = .ok (.aload_n 0, 1) := by decide +kernel
theorem dX9_undo_41 : decode cX9_undo 41 = .ok (.getfield 56, 3) := by decide +kernel
theorem dX9_undo_44 : decode cX9_undo 44 = .ok (.invokevirtual 80, 3) := by decide +kernel
theorem dX9_undo_47 : decode cX9_undo 47 = .ok (.return_, 1) := by decide +kernel
theorem dX9_tellOf_0 : decode cX9_tellOf 0 = .ok (.iload_n 2, 1) := by decide +kernel
theorem dX9_tellOf_1 : decode cX9_tellOf 1 = .ok (.tableswitch 153 0 5 #[39, 50, 61, 92, 123, 138], 39) := by decide +kernel
theorem dX9_tellOf_40 : decode cX9_tellOf 40 = .ok (.aload_n 0, 1) := by decide +kernel
theorem dX9_tellOf_41 : decode cX9_tellOf 41 = .ok (.getfield 34, 3) := by decide +kernel
theorem dX9_tellOf_44 : decode cX9_tellOf 44 = .ok (.iload_n 1, 1) := by decide +kernel
theorem dX9_tellOf_45 : decode cX9_tellOf 45 = .ok (.invokevirtual 134, 3) := by decide +kernel
theorem dX9_tellOf_48 : decode cX9_tellOf 48 = .ok (.goto 114, 3) := by decide +kernel
theorem dX9_tellOf_51 : decode cX9_tellOf 51 = .ok (.aload_n 0, 1) := by decide +kernel
theorem dX9_tellOf_52 : decode cX9_tellOf 52 = .ok (.getfield 34, 3) := by decide +kernel
theorem dX9_tellOf_55 : decode cX9_tellOf 55 = .ok (.iload_n 1, 1) := by decide +kernel
theorem dX9_tellOf_56 : decode cX9_tellOf 56 = .ok (.invokevirtual 137, 3) := by decide +kernel
theorem dX9_tellOf_59 : decode cX9_tellOf 59 = .ok (.goto 103, 3) := by decide +kernel
theorem dX9_tellOf_62 : decode cX9_tellOf 62 = .ok (.aload_n 0, 1) := by decide +kernel
theorem dX9_tellOf_63 : decode cX9_tellOf 63 = .ok (.getfield 21, 3) := by decide +kernel
theorem dX9_tellOf_66 : decode cX9_tellOf 66 = .ok (.iload_n 1, 1) := by decide +kernel
theorem dX9_tellOf_67 : decode cX9_tellOf 67 = .ok (.invokevirtual 140, 3) := by decide +kernel
theorem dX9_tellOf_70 : decode cX9_tellOf 70 = .ok (.ifCond .eq 18, 3) := by decide +kernel
theorem dX9_tellOf_73 : decode cX9_tellOf 73 = .ok (.aload_n 0, 1) := by decide +kernel
theorem dX9_tellOf_74 : decode cX9_tellOf 74 = .ok (.getfield 34, 3) := by decide +kernel
theorem dX9_tellOf_77 : decode cX9_tellOf 77 = .ok (.iload_n 1, 1) := by decide +kernel
theorem dX9_tellOf_78 : decode cX9_tellOf 78 = .ok (.iconst 0, 1) := by decide +kernel
theorem dX9_tellOf_79 : decode cX9_tellOf 79 = .ok (.invokevirtual 143, 3) := by decide +kernel
theorem dX9_tellOf_82 : decode cX9_tellOf 82 = .ok (.invokestatic 146, 3) := by decide +kernel
theorem dX9_tellOf_85 : decode cX9_tellOf 85 = .ok (.goto 77, 3) := by decide +kernel
theorem dX9_tellOf_88 : decode cX9_tellOf 88 = .ok (.bipush (-9), 2) := by decide +kernel
theorem dX9_tellOf_90 : decode cX9_tellOf 90 = .ok (.goto 72, 3) := by decide +kernel
theorem dX9_tellOf_93 : decode cX9_tellOf 93 = .ok (.aload_n 0, 1) := by decide +kernel
theorem dX9_tellOf_94 : decode cX9_tellOf 94 = .ok (.getfield 21, 3) := by decide +kernel
theorem dX9_tellOf_97 : decode cX9_tellOf 97 = .ok (.iload_n 1, 1) := by decide +kernel
theorem dX9_tellOf_98 : decode cX9_tellOf 98 = .ok (.invokevirtual 140, 3) := by decide +kernel
theorem dX9_tellOf_101 : decode cX9_tellOf 101 = .ok (.ifCond .eq 18, 3) := by decide +kernel
theorem dX9_tellOf_104 : decode cX9_tellOf 104 = .ok (.aload_n 0, 1) := by decide +kernel
theorem dX9_tellOf_105 : decode cX9_tellOf 105 = .ok (.getfield 34, 3) := by decide +kernel
theorem dX9_tellOf_108 : decode cX9_tellOf 108 = .ok (.iload_n 1, 1) := by decide +kernel
theorem dX9_tellOf_109 : decode cX9_tellOf 109 = .ok (.iconst 1, 1) := by decide +kernel
theorem dX9_tellOf_110 : decode cX9_tellOf 110 = .ok (.invokevirtual 143, 3) := by decide +kernel
theorem dX9_tellOf_113 : decode cX9_tellOf 113 = .ok (.invokestatic 146, 3) := by decide +kernel
theorem dX9_tellOf_116 : decode cX9_tellOf 116 = .ok (.goto 46, 3) := by decide +kernel
theorem dX9_tellOf_119 : decode cX9_tellOf 119 = .ok (.bipush (-9), 2) := by decide +kernel
theorem dX9_tellOf_121 : decode cX9_tellOf 121 = .ok (.goto 41, 3) := by decide +kernel
theorem dX9_tellOf_124 : decode cX9_tellOf 124 = .ok (.aload_n 0, 1) := by decide +kernel
theorem dX9_tellOf_125 : decode cX9_tellOf 125 = .ok (.getfield 43, 3) := by decide +kernel
theorem dX9_tellOf_128 : decode cX9_tellOf 128 = .ok (.getfield 150, 3) := by decide +kernel
theorem dX9_tellOf_131 : decode cX9_tellOf 131 = .ok (.iload_n 1, 1) := by decide +kernel
theorem dX9_tellOf_132 : decode cX9_tellOf 132 = .ok (.baload, 1) := by decide +kernel
theorem dX9_tellOf_133 : decode cX9_tellOf 133 = .ok (.invokestatic 146, 3) := by decide +kernel
theorem dX9_tellOf_136 : decode cX9_tellOf 136 = .ok (.goto 26, 3) := by decide +kernel
theorem dX9_tellOf_139 : decode cX9_tellOf 139 = .ok (.aload_n 0, 1) := by decide +kernel
theorem dX9_tellOf_140 : decode cX9_tellOf 140 = .ok (.getfield 43, 3) := by decide +kernel
theorem dX9_tellOf_143 : decode cX9_tellOf 143 = .ok (.getfield 154, 3) := by decide +kernel
theorem dX9_tellOf_146 : decode cX9_tellOf 146 = .ok (.iload_n 1, 1) := by decide +kernel
theorem dX9_tellOf_147 : decode cX9_tellOf 147 = .ok (.baload, 1) := by decide +kernel
theorem dX9_tellOf_148 : decode cX9_tellOf 148 = .ok (.invokestatic 146, 3) := by decide +kernel
theorem dX9_tellOf_151 : decode cX9_tellOf 151 = .ok (.goto 11, 3) := by decide +kernel
theorem dX9_tellOf_154 : decode cX9_tellOf 154 = .ok (.aload_n 0, 1) := by decide +kernel
theorem dX9_tellOf_155 : decode cX9_tellOf 155 = .ok (.getfield 34, 3) := by decide +kernel
theorem dX9_tellOf_158 : decode cX9_tellOf 158 = .ok (.iload_n 1, 1) := by decide +kernel
theorem dX9_tellOf_159 : decode cX9_tellOf 159 = .ok (.invokevirtual 157, 3) := by decide +kernel
theorem dX9_tellOf_162 : decode cX9_tellOf 162 = .ok (.ireturn, 1) := by decide +kernel
theorem dX10_init_0 : decode cX10_init 0 = .ok (.aload_n 0, 1) := by decide +kernel
theorem dX10_init_1 : decode cX10_init 1 = .ok (.invokespecial 3, 3) := by decide +kernel
theorem dX10_init_4 : decode cX10_init 4 = .ok (.aload_n 0, 1) := by decide +kernel
theorem dX10_init_5 : decode cX10_init 5 = .ok (.bipush 24, 2) := by decide +kernel
theorem dX10_init_7 : decode cX10_init 7 = .ok (.newarray .int, 2) := by decide +kernel
theorem dX10_init_9 : decode cX10_init 9 = .ok (.putfield 9, 3) := by decide +kernel
theorem dX10_init_12 : decode cX10_init 12 = .ok (.aload_n 0, 1) := by decide +kernel
theorem dX10_init_13 : decode cX10_init 13 = .ok (.bipush 24, 2) := by decide +kernel
theorem dX10_init_15 : decode cX10_init 15 = .ok (.newarray .int, 2) := by decide +kernel
theorem dX10_init_17 : decode cX10_init 17 = .ok (.putfield 15, 3) := by decide +kernel
theorem dX10_init_20 : decode cX10_init 20 = .ok (.aload_n 0, 1) := by decide +kernel
theorem dX10_init_21 : decode cX10_init 21 = .ok (.sipush 144, 3) := by decide +kernel
theorem dX10_init_24 : decode cX10_init 24 = .ok (.newarray .int, 2) := by decide +kernel
theorem dX10_init_26 : decode cX10_init 26 = .ok (.putfield 18, 3) := by decide +kernel
theorem dX10_init_29 : decode cX10_init 29 = .ok (.aload_n 0, 1) := by decide +kernel
theorem dX10_init_30 : decode cX10_init 30 = .ok (.bipush 30, 2) := by decide +kernel
theorem dX10_init_32 : decode cX10_init 32 = .ok (.newarray .int, 2) := by decide +kernel
theorem dX10_init_34 : decode cX10_init 34 = .ok (.putfield 21, 3) := by decide +kernel
theorem dX10_init_37 : decode cX10_init 37 = .ok (.aload_n 0, 1) := by decide +kernel
theorem dX10_init_38 : decode cX10_init 38 = .ok (.bipush 30, 2) := by decide +kernel
theorem dX10_init_40 : decode cX10_init 40 = .ok (.newarray .int, 2) := by decide +kernel
theorem dX10_init_42 : decode cX10_init 42 = .ok (.putfield 24, 3) := by decide +kernel
theorem dX10_init_45 : decode cX10_init 45 = .ok (.aload_n 0, 1) := by decide +kernel
theorem dX10_init_46 : decode cX10_init 46 = .ok (.getfield 18, 3) := by decide +kernel
theorem dX10_init_49 : decode cX10_init 49 = .ok (.bipush (-9), 2) := by decide +kernel
theorem dX10_init_51 : decode cX10_init 51 = .ok (.invokestatic 27, 3) := by decide +kernel
theorem dX10_init_54 : decode cX10_init 54 = .ok (.iconst 0, 1) := by decide +kernel
theorem dX10_init_55 : decode cX10_init 55 = .ok (.istore_n 1, 1) := by decide +kernel
theorem dX10_init_56 : decode cX10_init 56 = .ok (.iload_n 1, 1) := by decide +kernel
theorem dX10_init_57 : decode cX10_init 57 = .ok (.iconst 5, 1) := by decide +kernel
theorem dX10_init_58 : decode cX10_init 58 = .ok (.if_icmp .gt 33, 3) := by decide +kernel
theorem dX10_init_61 : decode cX10_init 61 = .ok (.aload_n 0, 1) := by decide +kernel
theorem dX10_init_62 : decode cX10_init 62 = .ok (.getfield 9, 3) := by decide +kernel
theorem dX10_init_65 : decode cX10_init 65 = .ok (.iload_n 1, 1) := by decide +kernel
theorem dX10_init_66 : decode cX10_init 66 = .ok (.iload_n 1, 1) := by decide +kernel
theorem dX10_init_67 : decode cX10_init 67 = .ok (.iconst 1, 1) := by decide +kernel
theorem dX10_init_68 : decode cX10_init 68 = .ok (.if_icmp .gt 8, 3) := by decide +kernel
theorem dX10_init_71 : decode cX10_init 71 = .ok (.bipush (-9), 2) := by decide +kernel
theorem dX10_init_73 : decode cX10_init 73 = .ok (.goto 4, 3) := by decide +kernel
theorem dX10_init_76 : decode cX10_init 76 = .ok (.iconst 1, 1) := by decide +kernel
theorem dX10_init_77 : decode cX10_init 77 = .ok (.iastore, 1) := by decide +kernel
theorem dX10_init_78 : decode cX10_init 78 = .ok (.aload_n 0, 1) := by decide +kernel
theorem dX10_init_79 : decode cX10_init 79 = .ok (.getfield 15, 3) := by decide +kernel
theorem dX10_init_82 : decode cX10_init 82 = .ok (.iload_n 1, 1) := by decide +kernel
theorem dX10_init_83 : decode cX10_init 83 = .ok (.iload_n 1, 1) := by decide +kernel
theorem dX10_init_84 : decode cX10_init 84 = .ok (.iastore, 1) := by decide +kernel
theorem dX10_init_85 : decode cX10_init 85 = .ok (.iinc 1 1, 3) := by decide +kernel
theorem dX10_init_88 : decode cX10_init 88 = .ok (.goto (-32), 3) := by decide +kernel
theorem dX10_init_91 : decode cX10_init 91 = .ok (.aload_n 0, 1) := by decide +kernel
theorem dX10_init_92 : decode cX10_init 92 = .ok (.bipush 6, 2) := by decide +kernel
theorem dX10_init_94 : decode cX10_init 94 = .ok (.putfield 33, 3) := by decide +kernel
theorem dX10_init_97 : decode cX10_init 97 = .ok (.return_, 1) := by decide +kernel
theorem dX10_hasKind_0 : decode cX10_hasKind 0 = .ok (.iload_n 1, 1) := by decide +kernel
theorem dX10_hasKind_1 : decode cX10_hasKind 1 = .ok (.ifCond .lt 15, 3) := by decide +kernel
theorem dX10_hasKind_4 : decode cX10_hasKind 4 = .ok (.iload_n 1, 1) := by decide +kernel
theorem dX10_hasKind_5 : decode cX10_hasKind 5 = .ok (.aload_n 0, 1) := by decide +kernel
theorem dX10_hasKind_6 : decode cX10_hasKind 6 = .ok (.getfield 33, 3) := by decide +kernel
theorem dX10_hasKind_9 : decode cX10_hasKind 9 = .ok (.if_icmp .ge 7, 3) := by decide +kernel
theorem dX10_hasKind_12 : decode cX10_hasKind 12 = .ok (.iconst 1, 1) := by decide +kernel
theorem dX10_hasKind_13 : decode cX10_hasKind 13 = .ok (.goto 4, 3) := by decide +kernel
theorem dX10_hasKind_16 : decode cX10_hasKind 16 = .ok (.iconst 0, 1) := by decide +kernel
theorem dX10_hasKind_17 : decode cX10_hasKind 17 = .ok (.ireturn, 1) := by decide +kernel
theorem dX10_hasObject_0 : decode cX10_hasObject 0 = .ok (.iload_n 1, 1) := by decide +kernel
theorem dX10_hasObject_1 : decode cX10_hasObject 1 = .ok (.ifCond .lt 15, 3) := by decide +kernel
theorem dX10_hasObject_4 : decode cX10_hasObject 4 = .ok (.iload_n 1, 1) := by decide +kernel
theorem dX10_hasObject_5 : decode cX10_hasObject 5 = .ok (.aload_n 0, 1) := by decide +kernel
theorem dX10_hasObject_6 : decode cX10_hasObject 6 = .ok (.getfield 37, 3) := by decide +kernel
theorem dX10_hasObject_9 : decode cX10_hasObject 9 = .ok (.if_icmp .ge 7, 3) := by decide +kernel
theorem dX10_hasObject_12 : decode cX10_hasObject 12 = .ok (.iconst 1, 1) := by decide +kernel
theorem dX10_hasObject_13 : decode cX10_hasObject 13 = .ok (.goto 4, 3) := by decide +kernel
theorem dX10_hasObject_16 : decode cX10_hasObject 16 = .ok (.iconst 0, 1) := by decide +kernel
theorem dX10_hasObject_17 : decode cX10_hasObject 17 = .ok (.ireturn, 1) := by decide +kernel
theorem dX10_addKind_0 : decode cX10_addKind 0 = .ok (.aload_n 0, 1) := by decide +kernel
theorem dX10_addKind_1 : decode cX10_addKind 1 = .ok (.getfield 9, 3) := by decide +kernel
theorem dX10_addKind_4 : decode cX10_addKind 4 = .ok (.aload_n 0, 1) := by decide +kernel
theorem dX10_addKind_5 : decode cX10_addKind 5 = .ok (.getfield 33, 3) := by decide +kernel
theorem dX10_addKind_8 : decode cX10_addKind 8 = .ok (.iload_n 1, 1) := by decide +kernel
theorem dX10_addKind_9 : decode cX10_addKind 9 = .ok (.iastore, 1) := by decide +kernel
theorem dX10_addKind_10 : decode cX10_addKind 10 = .ok (.aload_n 0, 1) := by decide +kernel
theorem dX10_addKind_11 : decode cX10_addKind 11 = .ok (.getfield 15, 3) := by decide +kernel
theorem dX10_addKind_14 : decode cX10_addKind 14 = .ok (.aload_n 0, 1) := by decide +kernel
theorem dX10_addKind_15 : decode cX10_addKind 15 = .ok (.getfield 33, 3) := by decide +kernel
theorem dX10_addKind_18 : decode cX10_addKind 18 = .ok (.aload_n 0, 1) := by decide +kernel
theorem dX10_addKind_19 : decode cX10_addKind 19 = .ok (.getfield 15, 3) := by decide +kernel
theorem dX10_addKind_22 : decode cX10_addKind 22 = .ok (.iload_n 1, 1) := by decide +kernel
theorem dX10_addKind_23 : decode cX10_addKind 23 = .ok (.iaload, 1) := by decide +kernel
theorem dX10_addKind_24 : decode cX10_addKind 24 = .ok (.iastore, 1) := by decide +kernel
theorem dX10_addKind_25 : decode cX10_addKind 25 = .ok (.aload_n 0, 1) := by decide +kernel
theorem dX10_addKind_26 : decode cX10_addKind 26 = .ok (.dup, 1) := by decide +kernel
theorem dX10_addKind_27 : decode cX10_addKind 27 = .ok (.getfield 33, 3) := by decide +kernel
theorem dX10_addKind_30 : decode cX10_addKind 30 = .ok (.dup_x1, 1) := by decide +kernel
theorem dX10_addKind_31 : decode cX10_addKind 31 = .ok (.iconst 1, 1) := by decide +kernel
theorem dX10_addKind_32 : decode cX10_addKind 32 = .ok (.iadd, 1) := by decide +kernel
theorem dX10_addKind_33 : decode cX10_addKind 33 = .ok (.putfield 33, 3) := by decide +kernel
theorem dX10_addKind_36 : decode cX10_addKind 36 = .ok (.ireturn, 1) := by decide +kernel
theorem dX10_addObject_0 : decode cX10_addObject 0 = .ok (.aload_n 0, 1) := by decide +kernel
theorem dX10_addObject_1 : decode cX10_addObject 1 = .ok (.getfield 21, 3) := by decide +kernel
theorem dX10_addObject_4 : decode cX10_addObject 4 = .ok (.aload_n 0, 1) := by decide +kernel
theorem dX10_addObject_5 : decode cX10_addObject 5 = .ok (.getfield 37, 3) := by decide +kernel
theorem dX10_addObject_8 : decode cX10_addObject 8 = .ok (.iload_n 1, 1) := by decide +kernel
theorem dX10_addObject_9 : decode cX10_addObject 9 = .ok (.iastore, 1) := by decide +kernel
theorem dX10_addObject_10 : decode cX10_addObject 10 = .ok (.aload_n 0, 1) := by decide +kernel
theorem dX10_addObject_11 : decode cX10_addObject 11 = .ok (.getfield 24, 3) := by decide +kernel
theorem dX10_addObject_14 : decode cX10_addObject 14 = .ok (.aload_n 0, 1) := by decide +kernel
theorem dX10_addObject_15 : decode cX10_addObject 15 = .ok (.getfield 37, 3) := by decide +kernel
theorem dX10_addObject_18 : decode cX10_addObject 18 = .ok (.iload_n 2, 1) := by decide +kernel
theorem dX10_addObject_19 : decode cX10_addObject 19 = .ok (.iastore, 1) := by decide +kernel
theorem dX10_addObject_20 : decode cX10_addObject 20 = .ok (.aload_n 0, 1) := by decide +kernel
theorem dX10_addObject_21 : decode cX10_addObject 21 = .ok (.dup, 1) := by decide +kernel
theorem dX10_addObject_22 : decode cX10_addObject 22 = .ok (.getfield 37, 3) := by decide +kernel
theorem dX10_addObject_25 : decode cX10_addObject 25 = .ok (.dup_x1, 1) := by decide +kernel
theorem dX10_addObject_26 : decode cX10_addObject 26 = .ok (.iconst 1, 1) := by decide +kernel
theorem dX10_addObject_27 : decode cX10_addObject 27 = .ok (.iadd, 1) := by decide +kernel
theorem dX10_addObject_28 : decode cX10_addObject 28 = .ok (.putfield 37, 3) := by decide +kernel
theorem dX10_addObject_31 : decode cX10_addObject 31 = .ok (.ireturn, 1) := by decide +kernel
theorem dX10_changeStandard_0 : decode cX10_changeStandard 0 = .ok (.aload_n 0, 1) := by decide +kernel
theorem dX10_changeStandard_1 : decode cX10_changeStandard 1 = .ok (.getfield 18, 3) := by decide +kernel
theorem dX10_changeStandard_4 : decode cX10_changeStandard 4 = .ok (.iload_n 1, 1) := by decide +kernel
theorem dX10_changeStandard_5 : decode cX10_changeStandard 5 = .ok (.bipush 6, 2) := by decide +kernel
theorem dX10_changeStandard_7 : decode cX10_changeStandard 7 = .ok (.imul, 1) := by decide +kernel
theorem dX10_changeStandard_8 : decode cX10_changeStandard 8 = .ok (.iload_n 2, 1) := by decide +kernel
theorem dX10_changeStandard_9 : decode cX10_changeStandard 9 = .ok (.iadd, 1) := by decide +kernel
theorem dX10_changeStandard_10 : decode cX10_changeStandard 10 = .ok (.iaload, 1) := by decide +kernel
theorem dX10_changeStandard_11 : decode cX10_changeStandard 11 = .ok (.istore 4, 2) := by decide +kernel
theorem dX10_changeStandard_13 : decode cX10_changeStandard 13 = .ok (.aload_n 0, 1) := by decide +kernel
theorem dX10_changeStandard_14 : decode cX10_changeStandard 14 = .ok (.getfield 18, 3) := by decide +kernel
theorem dX10_changeStandard_17 : decode cX10_changeStandard 17 = .ok (.iload_n 1, 1) := by decide +kernel
theorem dX10_changeStandard_18 : decode cX10_changeStandard 18 = .ok (.bipush 6, 2) := by decide +kernel
theorem dX10_changeStandard_20 : decode cX10_changeStandard 20 = .ok (.imul, 1) := by decide +kernel
theorem dX10_changeStandard_21 : decode cX10_changeStandard 21 = .ok (.iload_n 2, 1) := by decide +kernel
theorem dX10_changeStandard_22 : decode cX10_changeStandard 22 = .ok (.iadd, 1) := by decide +kernel
theorem dX10_changeStandard_23 : decode cX10_changeStandard 23 = .ok (.iload_n 3, 1) := by decide +kernel
theorem dX10_changeStandard_24 : decode cX10_changeStandard 24 = .ok (.iastore, 1) := by decide +kernel
theorem dX10_changeStandard_25 : decode cX10_changeStandard 25 = .ok (.iload 4, 2) := by decide +kernel
theorem dX10_changeStandard_27 : decode cX10_changeStandard 27 = .ok (.ireturn, 1) := by decide +kernel
theorem dX10_kindIs_0 : decode cX10_kindIs 0 = .ok (.iload_n 1, 1) := by decide +kernel
theorem dX10_kindIs_1 : decode cX10_kindIs 1 = .ok (.istore_n 3, 1) := by decide +kernel
theorem dX10_kindIs_2 : decode cX10_kindIs 2 = .ok (.iconst 0, 1) := by decide +kernel
theorem dX10_kindIs_3 : decode cX10_kindIs 3 = .ok (.istore 4, 2) := by decide +kernel
theorem dX10_kindIs_5 : decode cX10_kindIs 5 = .ok (.iload 4, 2) := by decide +kernel
theorem dX10_kindIs_7 : decode cX10_kindIs 7 = .ok (.bipush 24, 2) := by decide +kernel
theorem dX10_kindIs_9 : decode cX10_kindIs 9 = .ok (.if_icmp .ge 29, 3) := by decide +kernel
theorem dX10_kindIs_12 : decode cX10_kindIs 12 = .ok (.iload_n 3, 1) := by decide +kernel
theorem dX10_kindIs_13 : decode cX10_kindIs 13 = .ok (.bipush (-9), 2) := by decide +kernel
theorem dX10_kindIs_15 : decode cX10_kindIs 15 = .ok (.if_icmp .eq 23, 3) := by decide +kernel
theorem dX10_kindIs_18 : decode cX10_kindIs 18 = .ok (.iload_n 3, 1) := by decide +kernel
theorem dX10_kindIs_19 : decode cX10_kindIs 19 = .ok (.iload_n 2, 1) := by decide +kernel
theorem dX10_kindIs_20 : decode cX10_kindIs 20 = .ok (.if_icmp .ne 5, 3) := by decide +kernel
theorem dX10_kindIs_23 : decode cX10_kindIs 23 = .ok (.iconst 1, 1) := by decide +kernel
theorem dX10_kindIs_24 : decode cX10_kindIs 24 = .ok (.ireturn, 1) := by decide +kernel
theorem dX10_kindIs_25 : decode cX10_kindIs 25 = .ok (.aload_n 0, 1) := by decide +kernel
theorem dX10_kindIs_26 : decode cX10_kindIs 26 = .ok (.getfield 9, 3) := by decide +kernel
theorem dX10_kindIs_29 : decode cX10_kindIs 29 = .ok (.iload_n 3, 1) := by decide +kernel
theorem dX10_kindIs_30 : decode cX10_kindIs 30 = .ok (.iaload, 1) := by decide +kernel
theorem dX10_kindIs_31 : decode cX10_kindIs 31 = .ok (.istore_n 3, 1) := by decide +kernel
theorem dX10_kindIs_32 : decode cX10_kindIs 32 = .ok (.iinc 4 1, 3) := by decide +kernel
theorem dX10_kindIs_35 : decode cX10_kindIs 35 = .ok (.goto (-30), 3) := by decide +kernel
theorem dX10_kindIs_38 : decode cX10_kindIs 38 = .ok (.iconst 0, 1) := by decide +kernel
theorem dX10_kindIs_39 : decode cX10_kindIs 39 = .ok (.ireturn, 1) := by decide +kernel
theorem dX10_sortOf_0 : decode cX10_sortOf 0 = .ok (.iload_n 1, 1) := by decide +kernel
theorem dX10_sortOf_1 : decode cX10_sortOf 1 = .ok (.ifCond .lt 25, 3) := by decide +kernel
theorem dX10_sortOf_4 : decode cX10_sortOf 4 = .ok (.iload_n 1, 1) := by decide +kernel
theorem dX10_sortOf_5 : decode cX10_sortOf 5 = .ok (.aload_n 0, 1) := by decide +kernel
theorem dX10_sortOf_6 : decode cX10_sortOf 6 = .ok (.getfield 37, 3) := by decide +kernel
theorem dX10_sortOf_9 : decode cX10_sortOf 9 = .ok (.if_icmp .ge 17, 3) := by decide +kernel
theorem dX10_sortOf_12 : decode cX10_sortOf 12 = .ok (.aload_n 0, 1) := by decide +kernel
theorem dX10_sortOf_13 : decode cX10_sortOf 13 = .ok (.getfield 15, 3) := by decide +kernel
theorem dX10_sortOf_16 : decode cX10_sortOf 16 = .ok (.aload_n 0, 1) := by decide +kernel
theorem dX10_sortOf_17 : decode cX10_sortOf 17 = .ok (.getfield 21, 3) := by decide +kernel
theorem dX10_sortOf_20 : decode cX10_sortOf 20 = .ok (.iload_n 1, 1) := by decide +kernel
theorem dX10_sortOf_21 : decode cX10_sortOf 21 = .ok (.iaload, 1) := by decide +kernel
theorem dX10_sortOf_22 : decode cX10_sortOf 22 = .ok (.iaload, 1) := by decide +kernel
theorem dX10_sortOf_23 : decode cX10_sortOf 23 = .ok (.goto 5, 3) := by decide +kernel
theorem dX10_sortOf_26 : decode cX10_sortOf 26 = .ok (.bipush (-9), 2) := by decide +kernel
theorem dX10_sortOf_28 : decode cX10_sortOf 28 = .ok (.ireturn, 1) := by decide +kernel
theorem dX10_isOfSort_0 : decode cX10_isOfSort 0 = .ok (.aload_n 0, 1) := by decide +kernel
theorem dX10_isOfSort_1 : decode cX10_isOfSort 1 = .ok (.iload_n 1, 1) := by decide +kernel
theorem dX10_isOfSort_2 : decode cX10_isOfSort 2 = .ok (.invokevirtual 40, 3) := by decide +kernel
theorem dX10_isOfSort_5 : decode cX10_isOfSort 5 = .ok (.istore_n 3, 1) := by decide +kernel
theorem dX10_isOfSort_6 : decode cX10_isOfSort 6 = .ok (.iload_n 3, 1) := by decide +kernel
theorem dX10_isOfSort_7 : decode cX10_isOfSort 7 = .ok (.iload_n 2, 1) := by decide +kernel
theorem dX10_isOfSort_8 : decode cX10_isOfSort 8 = .ok (.if_icmp .eq 13, 3) := by decide +kernel
theorem dX10_isOfSort_11 : decode cX10_isOfSort 11 = .ok (.iload_n 2, 1) := by decide +kernel
theorem dX10_isOfSort_12 : decode cX10_isOfSort 12 = .ok (.iconst 1, 1) := by decide +kernel
theorem dX10_isOfSort_13 : decode cX10_isOfSort 13 = .ok (.if_icmp .ne 12, 3) := by decide +kernel
theorem dX10_isOfSort_16 : decode cX10_isOfSort 16 = .ok (.iload_n 3, 1) := by decide +kernel
theorem dX10_isOfSort_17 : decode cX10_isOfSort 17 = .ok (.iconst 1, 1) := by decide +kernel
theorem dX10_isOfSort_18 : decode cX10_isOfSort 18 = .ok (.if_icmp .le 7, 3) := by decide +kernel
theorem dX10_isOfSort_21 : decode cX10_isOfSort 21 = .ok (.iconst 1, 1) := by decide +kernel
theorem dX10_isOfSort_22 : decode cX10_isOfSort 22 = .ok (.goto 4, 3) := by decide +kernel
theorem dX10_isOfSort_25 : decode cX10_isOfSort 25 = .ok (.iconst 0, 1) := by decide +kernel
theorem dX10_isOfSort_26 : decode cX10_isOfSort 26 = .ok (.ireturn, 1) := by decide +kernel
theorem dX10_isMovable_0 : decode cX10_isMovable 0 = .ok (.aload_n 0, 1) := by decide +kernel
theorem dX10_isMovable_1 : decode cX10_isMovable 1 = .ok (.iload_n 1, 1) := by decide +kernel
theorem dX10_isMovable_2 : decode cX10_isMovable 2 = .ok (.invokevirtual 40, 3) := by decide +kernel
theorem dX10_isMovable_5 : decode cX10_isMovable 5 = .ok (.istore_n 2, 1) := by decide +kernel
theorem dX10_isMovable_6 : decode cX10_isMovable 6 = .ok (.iload_n 2, 1) := by decide +kernel
theorem dX10_isMovable_7 : decode cX10_isMovable 7 = .ok (.iconst 1, 1) := by decide +kernel
theorem dX10_isMovable_8 : decode cX10_isMovable 8 = .ok (.if_icmp .eq 8, 3) := by decide +kernel
theorem dX10_isMovable_11 : decode cX10_isMovable 11 = .ok (.iload_n 2, 1) := by decide +kernel
theorem dX10_isMovable_12 : decode cX10_isMovable 12 = .ok (.iconst 3, 1) := by decide +kernel
theorem dX10_isMovable_13 : decode cX10_isMovable 13 = .ok (.if_icmp .lt 7, 3) := by decide +kernel
theorem dX10_isMovable_16 : decode cX10_isMovable 16 = .ok (.iconst 1, 1) := by decide +kernel
theorem dX10_isMovable_17 : decode cX10_isMovable 17 = .ok (.goto 4, 3) := by decide +kernel
theorem dX10_isMovable_20 : decode cX10_isMovable 20 = .ok (.iconst 0, 1) := by decide +kernel
theorem dX10_isMovable_21 : decode cX10_isMovable 21 = .ok (.ireturn, 1) := by decide +kernel
theorem dX10_isGoods_0 : decode cX10_isGoods 0 = .ok (.aload_n 0, 1) := by decide +kernel
theorem dX10_isGoods_1 : decode cX10_isGoods 1 = .ok (.iload_n 1, 1) := by decide +kernel
theorem dX10_isGoods_2 : decode cX10_isGoods 2 = .ok (.invokevirtual 44, 3) := by decide +kernel
theorem dX10_isGoods_5 : decode cX10_isGoods 5 = .ok (.ifCond .eq 16, 3) := by decide +kernel
theorem dX10_isGoods_8 : decode cX10_isGoods 8 = .ok (.aload_n 0, 1) := by decide +kernel
theorem dX10_isGoods_9 : decode cX10_isGoods 9 = .ok (.iload_n 1, 1) := by decide +kernel
theorem dX10_isGoods_10 : decode cX10_isGoods 10 = .ok (.invokevirtual 40, 3) := by decide +kernel
theorem dX10_isGoods_13 : decode cX10_isGoods 13 = .ok (.iconst 5, 1) := by decide +kernel
theorem dX10_isGoods_14 : decode cX10_isGoods 14 = .ok (.if_icmp .eq 7, 3) := by decide +kernel
theorem dX10_isGoods_17 : decode cX10_isGoods 17 = .ok (.iconst 1, 1) := by decide +kernel
theorem dX10_isGoods_18 : decode cX10_isGoods 18 = .ok (.goto 4, 3) := by decide +kernel
theorem dX10_isGoods_21 : decode cX10_isGoods 21 = .ok (.iconst 0, 1) := by decide +kernel
theorem dX10_isGoods_22 : decode cX10_isGoods 22 = .ok (.ireturn, 1) := by decide +kernel
theorem dX10_isShutter_0 : decode cX10_isShutter 0 = .ok (.aload_n 0, 1) := by decide +kernel
theorem dX10_isShutter_1 : decode cX10_isShutter 1 = .ok (.iload_n 1, 1) := by decide +kernel
theorem dX10_isShutter_2 : decode cX10_isShutter 2 = .ok (.invokevirtual 40, 3) := by decide +kernel
theorem dX10_isShutter_5 : decode cX10_isShutter 5 = .ok (.istore_n 2, 1) := by decide +kernel
theorem dX10_isShutter_6 : decode cX10_isShutter 6 = .ok (.iload_n 2, 1) := by decide +kernel
theorem dX10_isShutter_7 : decode cX10_isShutter 7 = .ok (.iconst 2, 1) := by decide +kernel
theorem dX10_isShutter_8 : decode cX10_isShutter 8 = .ok (.if_icmp .eq 8, 3) := by decide +kernel
theorem dX10_isShutter_11 : decode cX10_isShutter 11 = .ok (.iload_n 2, 1) := by decide +kernel
theorem dX10_isShutter_12 : decode cX10_isShutter 12 = .ok (.iconst 3, 1) := by decide +kernel
theorem dX10_isShutter_13 : decode cX10_isShutter 13 = .ok (.if_icmp .ne 7, 3) := by decide +kernel
theorem dX10_isShutter_16 : decode cX10_isShutter 16 = .ok (.iconst 1, 1) := by decide +kernel
theorem dX10_isShutter_17 : decode cX10_isShutter 17 = .ok (.goto 4, 3) := by decide +kernel
theorem dX10_isShutter_20 : decode cX10_isShutter 20 = .ok (.iconst 0, 1) := by decide +kernel
theorem dX10_isShutter_21 : decode cX10_isShutter 21 = .ok (.ireturn, 1) := by decide +kernel
theorem dX10_canHave_0 : decode cX10_canHave 0 = .ok (.iload_n 2, 1) := by decide +kernel
theorem dX10_canHave_1 : decode cX10_canHave 1 = .ok (.tableswitch 80 0 5 #[39, 39, 80, 47, 55, 63], 39) := by decide +kernel
theorem dX10_canHave_40 : decode cX10_canHave 40 = .ok (.aload_n 0, 1) := by decide +kernel
theorem dX10_canHave_41 : decode cX10_canHave 41 = .ok (.iload_n 1, 1) := by decide +kernel
theorem dX10_canHave_42 : decode cX10_canHave 42 = .ok (.invokevirtual 48, 3) := by decide +kernel
theorem dX10_canHave_45 : decode cX10_canHave 45 = .ok (.goto 37, 3) := by decide +kernel
theorem dX10_canHave_48 : decode cX10_canHave 48 = .ok (.aload_n 0, 1) := by decide +kernel
theorem dX10_canHave_49 : decode cX10_canHave 49 = .ok (.iload_n 1, 1) := by decide +kernel
theorem dX10_canHave_50 : decode cX10_canHave 50 = .ok (.invokevirtual 44, 3) := by decide +kernel
theorem dX10_canHave_53 : decode cX10_canHave 53 = .ok (.goto 29, 3) := by decide +kernel
theorem dX10_canHave_56 : decode cX10_canHave 56 = .ok (.aload_n 0, 1) := by decide +kernel
theorem dX10_canHave_57 : decode cX10_canHave 57 = .ok (.iload_n 1, 1) := by decide +kernel
theorem dX10_canHave_58 : decode cX10_canHave 58 = .ok (.invokevirtual 51, 3) := by decide +kernel
theorem dX10_canHave_61 : decode cX10_canHave 61 = .ok (.goto 21, 3) := by decide +kernel
theorem dX10_canHave_64 : decode cX10_canHave 64 = .ok (.aload_n 0, 1) := by decide +kernel
theorem dX10_canHave_65 : decode cX10_canHave 65 = .ok (.iload_n 1, 1) := by decide +kernel
theorem dX10_canHave_66 : decode cX10_canHave 66 = .ok (.invokevirtual 40, 3) := by decide +kernel
theorem dX10_canHave_69 : decode cX10_canHave 69 = .ok (.iconst 3, 1) := by decide +kernel
theorem dX10_canHave_70 : decode cX10_canHave 70 = .ok (.if_icmp .ne 7, 3) := by decide +kernel
theorem dX10_canHave_73 : decode cX10_canHave 73 = .ok (.iconst 1, 1) := by decide +kernel
theorem dX10_canHave_74 : decode cX10_canHave 74 = .ok (.goto 8, 3) := by decide +kernel
theorem dX10_canHave_77 : decode cX10_canHave 77 = .ok (.iconst 0, 1) := by decide +kernel
theorem dX10_canHave_78 : decode cX10_canHave 78 = .ok (.goto 4, 3) := by decide +kernel
theorem dX10_canHave_81 : decode cX10_canHave 81 = .ok (.iconst 1, 1) := by decide +kernel
theorem dX10_canHave_82 : decode cX10_canHave 82 = .ok (.ireturn, 1) := by decide +kernel
theorem dX10_standardFor_0 : decode cX10_standardFor 0 = .ok (.aload_n 0, 1) := by decide +kernel
theorem dX10_standardFor_1 : decode cX10_standardFor 1 = .ok (.getfield 21, 3) := by decide +kernel
theorem dX10_standardFor_4 : decode cX10_standardFor 4 = .ok (.iload_n 1, 1) := by decide +kernel
theorem dX10_standardFor_5 : decode cX10_standardFor 5 = .ok (.iaload, 1) := by decide +kernel
theorem dX10_standardFor_6 : decode cX10_standardFor 6 = .ok (.istore_n 3, 1) := by decide +kernel
theorem dX10_standardFor_7 : decode cX10_standardFor 7 = .ok (.iconst 0, 1) := by decide +kernel
theorem dX10_standardFor_8 : decode cX10_standardFor 8 = .ok (.istore 4, 2) := by decide +kernel
theorem dX10_standardFor_10 : decode cX10_standardFor 10 = .ok (.iload 4, 2) := by decide +kernel
theorem dX10_standardFor_12 : decode cX10_standardFor 12 = .ok (.bipush 24, 2) := by decide +kernel
theorem dX10_standardFor_14 : decode cX10_standardFor 14 = .ok (.if_icmp .ge 45, 3) := by decide +kernel
theorem dX10_standardFor_17 : decode cX10_standardFor 17 = .ok (.iload_n 3, 1) := by decide +kernel
theorem dX10_standardFor_18 : decode cX10_standardFor 18 = .ok (.bipush (-9), 2) := by decide +kernel
theorem dX10_standardFor_20 : decode cX10_standardFor 20 = .ok (.if_icmp .eq 39, 3) := by decide +kernel
theorem dX10_standardFor_23 : decode cX10_standardFor 23 = .ok (.aload_n 0, 1) := by decide +kernel
theorem dX10_standardFor_24 : decode cX10_standardFor 24 = .ok (.getfield 18, 3) := by decide +kernel
theorem dX10_standardFor_27 : decode cX10_standardFor 27 = .ok (.iload_n 3, 1) := by decide +kernel
theorem dX10_standardFor_28 : decode cX10_standardFor 28 = .ok (.bipush 6, 2) := by decide +kernel
theorem dX10_standardFor_30 : decode cX10_standardFor 30 = .ok (.imul, 1) := by decide +kernel
theorem dX10_standardFor_31 : decode cX10_standardFor 31 = .ok (.iload_n 2, 1) := by decide +kernel
theorem dX10_standardFor_32 : decode cX10_standardFor 32 = .ok (.iadd, 1) := by decide +kernel
theorem dX10_standardFor_33 : decode cX10_standardFor 33 = .ok (.iaload, 1) := by decide +kernel
theorem dX10_standardFor_34 : decode cX10_standardFor 34 = .ok (.istore 5, 2) := by decide +kernel
theorem dX10_standardFor_36 : decode cX10_standardFor 36 = .ok (.iload 5, 2) := by decide +kernel
theorem dX10_standardFor_38 : decode cX10_standardFor 38 = .ok (.bipush (-9), 2) := by decide +kernel
theorem dX10_standardFor_40 : decode cX10_standardFor 40 = .ok (.if_icmp .eq 6, 3) := by decide +kernel
theorem dX10_standardFor_43 : decode cX10_standardFor 43 = .ok (.iload 5, 2) := by decide +kernel
theorem dX10_standardFor_45 : decode cX10_standardFor 45 = .ok (.ireturn, 1) := by decide +kernel
theorem dX10_standardFor_46 : decode cX10_standardFor 46 = .ok (.aload_n 0, 1) := by decide +kernel
theorem dX10_standardFor_47 : decode cX10_standardFor 47 = .ok (.getfield 9, 3) := by decide +kernel
theorem dX10_standardFor_50 : decode cX10_standardFor 50 = .ok (.iload_n 3, 1) := by decide +kernel
theorem dX10_standardFor_51 : decode cX10_standardFor 51 = .ok (.iaload, 1) := by decide +kernel
theorem dX10_standardFor_52 : decode cX10_standardFor 52 = .ok (.istore_n 3, 1) := by decide +kernel
theorem dX10_standardFor_53 : decode cX10_standardFor 53 = .ok (.iinc 4 1, 3) := by decide +kernel
theorem dX10_standardFor_56 : decode cX10_standardFor 56 = .ok (.goto (-46), 3) := by decide +kernel
theorem dX10_standardFor_59 : decode cX10_standardFor 59 = .ok (.iload_n 2, 1) := by decide +kernel
theorem dX10_standardFor_60 : decode cX10_standardFor 60 = .ok (.iconst 2, 1) := by decide +kernel
theorem dX10_standardFor_61 : decode cX10_standardFor 61 = .ok (.if_icmp .ne 15, 3) := by decide +kernel
theorem dX10_standardFor_64 : decode cX10_standardFor 64 = .ok (.aload_n 0, 1) := by decide +kernel
theorem dX10_standardFor_65 : decode cX10_standardFor 65 = .ok (.iload_n 1, 1) := by decide +kernel
theorem dX10_standardFor_66 : decode cX10_standardFor 66 = .ok (.invokevirtual 40, 3) := by decide +kernel
theorem dX10_standardFor_69 : decode cX10_standardFor 69 = .ok (.ifCond .ne 7, 3) := by decide +kernel
theorem dX10_standardFor_72 : decode cX10_standardFor 72 = .ok (.iconst 1, 1) := by decide +kernel
theorem dX10_standardFor_73 : decode cX10_standardFor 73 = .ok (.goto 4, 3) := by decide +kernel
theorem dX10_standardFor_76 : decode cX10_standardFor 76 = .ok (.iconst 0, 1) := by decide +kernel
theorem dX10_standardFor_77 : decode cX10_standardFor 77 = .ok (.ireturn, 1) := by decide +kernel
theorem dX11_init_0 : decode cX11_init 0 = .ok (.aload_n 0, 1) := by decide +kernel
theorem dX11_init_1 : decode cX11_init 1 = .ok (.invokespecial 1, 3) := by decide +kernel
theorem dX11_init_4 : decode cX11_init 4 = .ok (.aload_n 0, 1) := by decide +kernel
theorem dX11_init_5 : decode cX11_init 5 = .ok (.new 7, 3) := by decide +kernel
theorem dX11_init_8 : decode cX11_init 8 = .ok (.dup, 1) := by decide +kernel
theorem dX11_init_9 : decode cX11_init 9 = .ok (.invokespecial 9, 3) := by decide +kernel
theorem dX11_init_12 : decode cX11_init 12 = .ok (.putfield 10, 3) := by decide +kernel
theorem dX11_init_15 : decode cX11_init 15 = .ok (.aload_n 0, 1) := by decide +kernel
theorem dX11_init_16 : decode cX11_init 16 = .ok (.new 16, 3) := by decide +kernel
theorem dX11_init_19 : decode cX11_init 19 = .ok (.dup, 1) := by decide +kernel
theorem dX11_init_20 : decode cX11_init 20 = .ok (.aload_n 0, 1) := by decide +kernel
theorem dX11_init_21 : decode cX11_init 21 = .ok (.getfield 10, 3) := by decide +kernel
theorem dX11_init_24 : decode cX11_init 24 = .ok (.invokespecial 18, 3) := by decide +kernel
theorem dX11_init_27 : decode cX11_init 27 = .ok (.putfield 21, 3) := by decide +kernel
theorem dX11_init_30 : decode cX11_init 30 = .ok (.aload_n 0, 1) := by decide +kernel
theorem dX11_init_31 : decode cX11_init 31 = .ok (.new 25, 3) := by decide +kernel
theorem dX11_init_34 : decode cX11_init 34 = .ok (.dup, 1) := by decide +kernel
theorem dX11_init_35 : decode cX11_init 35 = .ok (.aload_n 0, 1) := by decide +kernel
theorem dX11_init_36 : decode cX11_init 36 = .ok (.getfield 10, 3) := by decide +kernel
theorem dX11_init_39 : decode cX11_init 39 = .ok (.aload_n 0, 1) := by decide +kernel
theorem dX11_init_40 : decode cX11_init 40 = .ok (.getfield 21, 3) := by decide +kernel
theorem dX11_init_43 : decode cX11_init 43 = .ok (.invokespecial 27, 3) := by decide +kernel
theorem dX11_init_46 : decode cX11_init 46 = .ok (.putfield 30, 3) := by decide +kernel
theorem dX11_init_49 : decode cX11_init 49 = .ok (.aload_n 0, 1) := by decide +kernel
theorem dX11_init_50 : decode cX11_init 50 = .ok (.new 34, 3) := by decide +kernel
theorem dX11_init_53 : decode cX11_init 53 = .ok (.dup, 1) := by decide +kernel
theorem dX11_init_54 : decode cX11_init 54 = .ok (.aload_n 0, 1) := by decide +kernel
theorem dX11_init_55 : decode cX11_init 55 = .ok (.getfield 10, 3) := by decide +kernel
theorem dX11_init_58 : decode cX11_init 58 = .ok (.invokespecial 36, 3) := by decide +kernel
theorem dX11_init_61 : decode cX11_init 61 = .ok (.putfield 37, 3) := by decide +kernel
theorem dX11_init_64 : decode cX11_init 64 = .ok (.aload_n 0, 1) := by decide +kernel
theorem dX11_init_65 : decode cX11_init 65 = .ok (.new 41, 3) := by decide +kernel
theorem dX11_init_68 : decode cX11_init 68 = .ok (.dup, 1) := by decide +kernel
theorem dX11_init_69 : decode cX11_init 69 = .ok (.aload_n 0, 1) := by decide +kernel
theorem dX11_init_70 : decode cX11_init 70 = .ok (.getfield 10, 3) := by decide +kernel
theorem dX11_init_73 : decode cX11_init 73 = .ok (.aload_n 0, 1) := by decide +kernel
theorem dX11_init_74 : decode cX11_init 74 = .ok (.getfield 21, 3) := by decide +kernel
theorem dX11_init_77 : decode cX11_init 77 = .ok (.aload_n 0, 1) := by decide +kernel
theorem dX11_init_78 : decode cX11_init 78 = .ok (.getfield 30, 3) := by decide +kernel
theorem dX11_init_81 : decode cX11_init 81 = .ok (.aload_n 0, 1) := by decide +kernel
theorem dX11_init_82 : decode cX11_init 82 = .ok (.getfield 37, 3) := by decide +kernel
theorem dX11_init_85 : decode cX11_init 85 = .ok (.invokespecial 43, 3) := by decide +kernel
theorem dX11_init_88 : decode cX11_init 88 = .ok (.putfield 46, 3) := by decide +kernel
theorem dX11_init_91 : decode cX11_init 91 = .ok (.aload_n 0, 1) := by decide +kernel
theorem dX11_init_92 : decode cX11_init 92 = .ok (.new 50, 3) := by decide +kernel
theorem dX11_init_95 : decode cX11_init 95 = .ok (.dup, 1) := by decide +kernel
theorem dX11_init_96 : decode cX11_init 96 = .ok (.invokespecial 52, 3) := by decide +kernel
theorem dX11_init_99 : decode cX11_init 99 = .ok (.putfield 53, 3) := by decide +kernel
theorem dX11_init_102 : decode cX11_init 102 = .ok (.aload_n 0, 1) := by decide +kernel
theorem dX11_init_103 : decode cX11_init 103 = .ok (.new 57, 3) := by decide +kernel
theorem dX11_init_106 : decode cX11_init 106 = .ok (.dup, 1) := by decide +kernel
theorem dX11_init_107 : decode cX11_init 107 = .ok (.invokespecial 59, 3) := by decide +kernel
theorem dX11_init_110 : decode cX11_init 110 = .ok (.putfield 60, 3) := by decide +kernel
theorem dX11_init_113 : decode cX11_init 113 = .ok (.aload_n 0, 1) := by decide +kernel
theorem dX11_init_114 : decode cX11_init 114 = .ok (.aconst_null, 1) := by decide +kernel
theorem dX11_init_115 : decode cX11_init 115 = .ok (.putfield 64, 3) := by decide +kernel
theorem dX11_init_118 : decode cX11_init 118 = .ok (.aload_n 0, 1) := by decide +kernel
theorem dX11_init_119 : decode cX11_init 119 = .ok (.bipush 7, 2) := by decide +kernel
theorem dX11_init_121 : decode cX11_init 121 = .ok (.newarray .int, 2) := by decide +kernel
theorem dX11_init_123 : decode cX11_init 123 = .ok (.putfield 68, 3) := by decide +kernel
theorem dX11_init_126 : decode cX11_init 126 = .ok (.aload_n 0, 1) := by decide +kernel
theorem dX11_init_127 : decode cX11_init 127 = .ok (.iconst 0, 1) := by decide +kernel
theorem dX11_init_128 : decode cX11_init 128 = .ok (.putfield 72, 3) := by decide +kernel
theorem dX11_init_131 : decode cX11_init 131 = .ok (.aload_n 0, 1) := by decide +kernel
theorem dX11_init_132 : decode cX11_init 132 = .ok (.lconst 0, 1) := by decide +kernel
theorem dX11_init_133 : decode cX11_init 133 = .ok (.putfield 76, 3) := by decide +kernel
theorem dX11_init_136 : decode cX11_init 136 = .ok (.return_, 1) := by decide +kernel
theorem dX11_kind_0 : decode cX11_kind 0 = .ok (.aload_n 0, 1) := by decide +kernel
theorem dX11_kind_1 : decode cX11_kind 1 = .ok (.getfield 10, 3) := by decide +kernel
theorem dX11_kind_4 : decode cX11_kind 4 = .ok (.iload_n 1, 1) := by decide +kernel
theorem dX11_kind_5 : decode cX11_kind 5 = .ok (.invokevirtual 80, 3) := by decide +kernel
theorem dX11_kind_8 : decode cX11_kind 8 = .ok (.ifCond .ne 5, 3) := by decide +kernel
theorem dX11_kind_11 : decode cX11_kind 11 = .ok (.iconst (-1), 1) := by decide +kernel
theorem dX11_kind_12 : decode cX11_kind 12 = .ok (.ireturn, 1) := by decide +kernel
theorem dX11_kind_13 : decode cX11_kind 13 = .ok (.aload_n 0, 1) := by decide +kernel
theorem dX11_kind_14 : decode cX11_kind 14 = .ok (.getfield 10, 3) := by decide +kernel
theorem dX11_kind_17 : decode cX11_kind 17 = .ok (.getfield 84, 3) := by decide +kernel
theorem dX11_kind_20 : decode cX11_kind 20 = .ok (.bipush 24, 2) := by decide +kernel
theorem dX11_kind_22 : decode cX11_kind 22 = .ok (.if_icmp .lt 6, 3) := by decide +kernel
theorem dX11_kind_25 : decode cX11_kind 25 = .ok (.bipush (-2), 2) := by decide +kernel
theorem dX11_kind_27 : decode cX11_kind 27 = .ok (.ireturn, 1) := by decide +kernel
theorem dX11_kind_28 : decode cX11_kind 28 = .ok (.aload_n 0, 1) := by decide +kernel
theorem dX11_kind_29 : decode cX11_kind 29 = .ok (.getfield 10, 3) := by decide +kernel
theorem dX11_kind_32 : decode cX11_kind 32 = .ok (.iload_n 1, 1) := by decide +kernel
theorem dX11_kind_33 : decode cX11_kind 33 = .ok (.invokevirtual 87, 3) := by decide +kernel
theorem dX11_kind_36 : decode cX11_kind 36 = .ok (.ireturn, 1) := by decide +kernel
theorem dX11_standard_0 : decode cX11_standard 0 = .ok (.aload_n 0, 1) := by decide +kernel
theorem dX11_standard_1 : decode cX11_standard 1 = .ok (.getfield 10, 3) := by decide +kernel
theorem dX11_standard_4 : decode cX11_standard 4 = .ok (.iload_n 1, 1) := by decide +kernel
theorem dX11_standard_5 : decode cX11_standard 5 = .ok (.invokevirtual 80, 3) := by decide +kernel
theorem dX11_standard_8 : decode cX11_standard 8 = .ok (.ifCond .eq 27, 3) := by decide +kernel
theorem dX11_standard_11 : decode cX11_standard 11 = .ok (.iload_n 2, 1) := by decide +kernel
theorem dX11_standard_12 : decode cX11_standard 12 = .ok (.bipush 6, 2) := by decide +kernel
theorem dX11_standard_14 : decode cX11_standard 14 = .ok (.invokestatic 91, 3) := by decide +kernel
theorem dX11_standard_17 : decode cX11_standard 17 = .ok (.ifCond .eq 18, 3) := by decide +kernel
theorem dX11_standard_20 : decode cX11_standard 20 = .ok (.iload_n 3, 1) := by decide +kernel
theorem dX11_standard_21 : decode cX11_standard 21 = .ok (.ifCond .eq 16, 3) := by decide +kernel
theorem dX11_standard_24 : decode cX11_standard 24 = .ok (.iload_n 3, 1) := by decide +kernel
theorem dX11_standard_25 : decode cX11_standard 25 = .ok (.iconst 1, 1) := by decide +kernel
theorem dX11_standard_26 : decode cX11_standard 26 = .ok (.if_icmp .eq 11, 3) := by decide +kernel
theorem dX11_standard_29 : decode cX11_standard 29 = .ok (.iload_n 3, 1) := by decide +kernel
theorem dX11_standard_30 : decode cX11_standard 30 = .ok (.bipush (-9), 2) := by decide +kernel
theorem dX11_standard_32 : decode cX11_standard 32 = .ok (.if_icmp .eq 5, 3) := by decide +kernel
theorem dX11_standard_35 : decode cX11_standard 35 = .ok (.iconst (-1), 1) := by decide +kernel
theorem dX11_standard_36 : decode cX11_standard 36 = .ok (.ireturn, 1) := by decide +kernel
theorem dX11_standard_37 : decode cX11_standard 37 = .ok (.aload_n 0, 1) := by decide +kernel
theorem dX11_standard_38 : decode cX11_standard 38 = .ok (.getfield 46, 3) := by decide +kernel
theorem dX11_standard_41 : decode cX11_standard 41 = .ok (.invokevirtual 95, 3) := by decide +kernel
theorem dX11_standard_44 : decode cX11_standard 44 = .ok (.aload_n 0, 1) := by decide +kernel
theorem dX11_standard_45 : decode cX11_standard 45 = .ok (.getfield 10, 3) := by decide +kernel
theorem dX11_standard_48 : decode cX11_standard 48 = .ok (.iload_n 1, 1) := by decide +kernel
theorem dX11_standard_49 : decode cX11_standard 49 = .ok (.iload_n 2, 1) := by decide +kernel
theorem dX11_standard_50 : decode cX11_standard 50 = .ok (.iload_n 3, 1) := by decide +kernel
theorem dX11_standard_51 : decode cX11_standard 51 = .ok (.invokevirtual 98, 3) := by decide +kernel
theorem dX11_standard_54 : decode cX11_standard 54 = .ok (.ireturn, 1) := by decide +kernel
theorem dX11_make_0 : decode cX11_make 0 = .ok (.aload_n 0, 1) := by decide +kernel
theorem dX11_make_1 : decode cX11_make 1 = .ok (.getfield 10, 3) := by decide +kernel
theorem dX11_make_4 : decode cX11_make 4 = .ok (.iload_n 1, 1) := by decide +kernel
theorem dX11_make_5 : decode cX11_make 5 = .ok (.invokevirtual 80, 3) := by decide +kernel
theorem dX11_make_8 : decode cX11_make 8 = .ok (.ifCond .eq 13, 3) := by decide +kernel
theorem dX11_make_11 : decode cX11_make 11 = .ok (.iload_n 2, 1) := by decide +kernel
theorem dX11_make_12 : decode cX11_make 12 = .ok (.ifCond .lt 9, 3) := by decide +kernel
theorem dX11_make_15 : decode cX11_make 15 = .ok (.iload_n 2, 1) := by decide +kernel
theorem dX11_make_16 : decode cX11_make 16 = .ok (.bipush 99, 2) := by decide +kernel
theorem dX11_make_18 : decode cX11_make 18 = .ok (.if_icmp .le 5, 3) := by decide +kernel
theorem dX11_make_21 : decode cX11_make 21 = .ok (.iconst (-1), 1) := by decide +kernel
theorem dX11_make_22 : decode cX11_make 22 = .ok (.ireturn, 1) := by decide +kernel
theorem dX11_make_23 : decode cX11_make 23 = .ok (.aload_n 0, 1) := by decide +kernel
theorem dX11_make_24 : decode cX11_make 24 = .ok (.getfield 10, 3) := by decide +kernel
theorem dX11_make_27 : decode cX11_make 27 = .ok (.getfield 102, 3) := by decide +kernel
theorem dX11_make_30 : decode cX11_make 30 = .ok (.bipush 30, 2) := by decide +kernel
theorem dX11_make_32 : decode cX11_make 32 = .ok (.if_icmp .lt 6, 3) := by decide +kernel
theorem dX11_make_35 : decode cX11_make 35 = .ok (.bipush (-2), 2) := by decide +kernel
theorem dX11_make_37 : decode cX11_make 37 = .ok (.ireturn, 1) := by decide +kernel
theorem dX11_make_38 : decode cX11_make 38 = .ok (.aload_n 0, 1) := by decide +kernel
theorem dX11_make_39 : decode cX11_make 39 = .ok (.getfield 46, 3) := by decide +kernel
theorem dX11_make_42 : decode cX11_make 42 = .ok (.invokevirtual 95, 3) := by decide +kernel
theorem dX11_make_45 : decode cX11_make 45 = .ok (.aload_n 0, 1) := by decide +kernel
theorem dX11_make_46 : decode cX11_make 46 = .ok (.getfield 10, 3) := by decide +kernel
theorem dX11_make_49 : decode cX11_make 49 = .ok (.iload_n 1, 1) := by decide +kernel
theorem dX11_make_50 : decode cX11_make 50 = .ok (.iload_n 2, 1) := by decide +kernel
theorem dX11_make_51 : decode cX11_make 51 = .ok (.invokevirtual 105, 3) := by decide +kernel
theorem dX11_make_54 : decode cX11_make 54 = .ok (.ireturn, 1) := by decide +kernel
theorem dX11_is_0 : decode cX11_is 0 = .ok (.aload_n 0, 1) := by decide +kernel
theorem dX11_is_1 : decode cX11_is 1 = .ok (.getfield 10, 3) := by decide +kernel
theorem dX11_is_4 : decode cX11_is 4 = .ok (.iload_n 1, 1) := by decide +kernel
theorem dX11_is_5 : decode cX11_is 5 = .ok (.invokevirtual 109, 3) := by decide +kernel
theorem dX11_is_8 : decode cX11_is 8 = .ok (.ifCond .eq 14, 3) := by decide +kernel
theorem dX11_is_11 : decode cX11_is 11 = .ok (.aload_n 0, 1) := by decide +kernel
theorem dX11_is_12 : decode cX11_is 12 = .ok (.getfield 10, 3) := by decide +kernel
theorem dX11_is_15 : decode cX11_is 15 = .ok (.iload_n 2, 1) := by decide +kernel
theorem dX11_is_16 : decode cX11_is 16 = .ok (.invokevirtual 80, 3) := by decide +kernel
theorem dX11_is_19 : decode cX11_is 19 = .ok (.ifCond .ne 5, 3) := by decide +kernel
theorem dX11_is_22 : decode cX11_is 22 = .ok (.iconst (-1), 1) := by decide +kernel
theorem dX11_is_23 : decode cX11_is 23 = .ok (.ireturn, 1) := by decide +kernel
theorem dX11_is_24 : decode cX11_is 24 = .ok (.aload_n 0, 1) := by decide +kernel
theorem dX11_is_25 : decode cX11_is 25 = .ok (.getfield 10, 3) := by decide +kernel
theorem dX11_is_28 : decode cX11_is 28 = .ok (.aload_n 0, 1) := by decide +kernel
theorem dX11_is_29 : decode cX11_is 29 = .ok (.getfield 10, 3) := by decide +kernel
theorem dX11_is_32 : decode cX11_is 32 = .ok (.getfield 112, 3) := by decide +kernel
theorem dX11_is_35 : decode cX11_is 35 = .ok (.iload_n 1, 1) := by decide +kernel
theorem dX11_is_36 : decode cX11_is 36 = .ok (.iaload, 1) := by decide +kernel
theorem dX11_is_37 : decode cX11_is 37 = .ok (.iload_n 2, 1) := by decide +kernel
theorem dX11_is_38 : decode cX11_is 38 = .ok (.invokevirtual 115, 3) := by decide +kernel
theorem dX11_is_41 : decode cX11_is 41 = .ok (.invokestatic 118, 3) := by decide +kernel
theorem dX11_is_44 : decode cX11_is 44 = .ok (.ireturn, 1) := by decide +kernel
theorem dX11_bulk_0 : decode cX11_bulk 0 = .ok (.aload_n 0, 1) := by decide +kernel
theorem dX11_bulk_1 : decode cX11_bulk 1 = .ok (.getfield 10, 3) := by decide +kernel
theorem dX11_bulk_4 : decode cX11_bulk 4 = .ok (.iload_n 1, 1) := by decide +kernel
theorem dX11_bulk_5 : decode cX11_bulk 5 = .ok (.invokevirtual 109, 3) := by decide +kernel
theorem dX11_bulk_8 : decode cX11_bulk 8 = .ok (.ifCond .ne 5, 3) := by decide +kernel
theorem dX11_bulk_11 : decode cX11_bulk 11 = .ok (.iconst (-1), 1) := by decide +kernel
theorem dX11_bulk_12 : decode cX11_bulk 12 = .ok (.ireturn, 1) := by decide +kernel
theorem dX11_bulk_13 : decode cX11_bulk 13 = .ok (.aload_n 0, 1) := by decide +kernel
theorem dX11_bulk_14 : decode cX11_bulk 14 = .ok (.getfield 37, 3) := by decide +kernel
theorem dX11_bulk_17 : decode cX11_bulk 17 = .ok (.invokevirtual 122, 3) := by decide +kernel
theorem dX11_bulk_20 : decode cX11_bulk 20 = .ok (.aload_n 0, 1) := by decide +kernel
theorem dX11_bulk_21 : decode cX11_bulk 21 = .ok (.getfield 10, 3) := by decide +kernel
theorem dX11_bulk_24 : decode cX11_bulk 24 = .ok (.iload_n 1, 1) := by decide +kernel
theorem dX11_bulk_25 : decode cX11_bulk 25 = .ok (.invokevirtual 125, 3) := by decide +kernel
theorem dX11_bulk_28 : decode cX11_bulk 28 = .ok (.ifCond .ne 9, 3) := by decide +kernel
theorem dX11_bulk_31 : decode cX11_bulk 31 = .ok (.aload_n 0, 1) := by decide +kernel
theorem dX11_bulk_32 : decode cX11_bulk 32 = .ok (.iconst 3, 1) := by decide +kernel
theorem dX11_bulk_33 : decode cX11_bulk 33 = .ok (.invokevirtual 128, 3) := by decide +kernel
theorem dX11_bulk_36 : decode cX11_bulk 36 = .ok (.ireturn, 1) := by decide +kernel
theorem dX11_bulk_37 : decode cX11_bulk 37 = .ok (.aload_n 0, 1) := by decide +kernel
theorem dX11_bulk_38 : decode cX11_bulk 38 = .ok (.getfield 37, 3) := by decide +kernel
theorem dX11_bulk_41 : decode cX11_bulk 41 = .ok (.aload_n 0, 1) := by decide +kernel
theorem dX11_bulk_42 : decode cX11_bulk 42 = .ok (.invokevirtual 131, 3) := by decide +kernel
theorem dX11_bulk_45 : decode cX11_bulk 45 = .ok (.iload_n 1, 1) := by decide +kernel
theorem dX11_bulk_46 : decode cX11_bulk 46 = .ok (.invokevirtual 135, 3) := by decide +kernel
theorem dX11_bulk_49 : decode cX11_bulk 49 = .ok (.istore_n 2, 1) := by decide +kernel
theorem dX11_bulk_50 : decode cX11_bulk 50 = .ok (.iload_n 2, 1) := by decide +kernel
theorem dX11_bulk_51 : decode cX11_bulk 51 = .ok (.ifCond .ge 9, 3) := by decide +kernel
theorem dX11_bulk_54 : decode cX11_bulk 54 = .ok (.aload_n 0, 1) := by decide +kernel
theorem dX11_bulk_55 : decode cX11_bulk 55 = .ok (.iconst 4, 1) := by decide +kernel
theorem dX11_bulk_56 : decode cX11_bulk 56 = .ok (.invokevirtual 128, 3) := by decide +kernel
theorem dX11_bulk_59 : decode cX11_bulk 59 = .ok (.ireturn, 1) := by decide +kernel
theorem dX11_bulk_60 : decode cX11_bulk 60 = .ok (.aload_n 0, 1) := by decide +kernel
theorem dX11_bulk_61 : decode cX11_bulk 61 = .ok (.iload_n 2, 1) := by decide +kernel
theorem dX11_bulk_62 : decode cX11_bulk 62 = .ok (.i2l, 1) := by decide +kernel
theorem dX11_bulk_63 : decode cX11_bulk 63 = .ok (.putfield 76, 3) := by decide +kernel
theorem dX11_bulk_66 : decode cX11_bulk 66 = .ok (.iconst 1, 1) := by decide +kernel
theorem dX11_bulk_67 : decode cX11_bulk 67 = .ok (.ireturn, 1) := by decide +kernel
theorem dX11_asked_0 : decode cX11_asked 0 = .ok (.aload_n 0, 1) := by decide +kernel
theorem dX11_asked_1 : decode cX11_asked 1 = .ok (.getfield 76, 3) := by decide +kernel
theorem dX11_asked_4 : decode cX11_asked 4 = .ok (.lreturn, 1) := by decide +kernel
theorem dX11_trace_0 : decode cX11_trace 0 = .ok (.iload_n 1, 1) := by decide +kernel
theorem dX11_trace_1 : decode cX11_trace 1 = .ok (.aload_n 0, 1) := by decide +kernel
theorem dX11_trace_2 : decode cX11_trace 2 = .ok (.getfield 37, 3) := by decide +kernel
theorem dX11_trace_5 : decode cX11_trace 5 = .ok (.getfield 139, 3) := by decide +kernel
theorem dX11_trace_8 : decode cX11_trace 8 = .ok (.invokestatic 91, 3) := by decide +kernel
theorem dX11_trace_11 : decode cX11_trace 11 = .ok (.ifCond .eq 15, 3) := by decide +kernel
theorem dX11_trace_14 : decode cX11_trace 14 = .ok (.aload_n 0, 1) := by decide +kernel
theorem dX11_trace_15 : decode cX11_trace 15 = .ok (.getfield 37, 3) := by decide +kernel
theorem dX11_trace_18 : decode cX11_trace 18 = .ok (.getfield 142, 3) := by decide +kernel
theorem dX11_trace_21 : decode cX11_trace 21 = .ok (.iload_n 1, 1) := by decide +kernel
theorem dX11_trace_22 : decode cX11_trace 22 = .ok (.iaload, 1) := by decide +kernel
theorem dX11_trace_23 : decode cX11_trace 23 = .ok (.goto 5, 3) := by decide +kernel
theorem dX11_trace_26 : decode cX11_trace 26 = .ok (.bipush (-9), 2) := by decide +kernel
theorem dX11_trace_28 : decode cX11_trace 28 = .ok (.ireturn, 1) := by decide +kernel
theorem dX11_share_0 : decode cX11_share 0 = .ok (.aload_n 0, 1) := by decide +kernel
theorem dX11_share_1 : decode cX11_share 1 = .ok (.getfield 10, 3) := by decide +kernel
theorem dX11_share_4 : decode cX11_share 4 = .ok (.iload_n 1, 1) := by decide +kernel
theorem dX11_share_5 : decode cX11_share 5 = .ok (.invokevirtual 109, 3) := by decide +kernel
theorem dX11_share_8 : decode cX11_share 8 = .ok (.ifCond .eq 14, 3) := by decide +kernel
theorem dX11_share_11 : decode cX11_share 11 = .ok (.aload_n 0, 1) := by decide +kernel
theorem dX11_share_12 : decode cX11_share 12 = .ok (.getfield 10, 3) := by decide +kernel
theorem dX11_share_15 : decode cX11_share 15 = .ok (.iload_n 2, 1) := by decide +kernel
theorem dX11_share_16 : decode cX11_share 16 = .ok (.invokevirtual 109, 3) := by decide +kernel
theorem dX11_share_19 : decode cX11_share 19 = .ok (.ifCond .ne 5, 3) := by decide +kernel
theorem dX11_share_22 : decode cX11_share 22 = .ok (.iconst (-1), 1) := by decide +kernel
theorem dX11_share_23 : decode cX11_share 23 = .ok (.ireturn, 1) := by decide +kernel
theorem dX11_share_24 : decode cX11_share 24 = .ok (.aload_n 0, 1) := by decide +kernel
theorem dX11_share_25 : decode cX11_share 25 = .ok (.getfield 10, 3) := by decide +kernel
theorem dX11_share_28 : decode cX11_share 28 = .ok (.iload_n 1, 1) := by decide +kernel
theorem dX11_share_29 : decode cX11_share 29 = .ok (.invokevirtual 125, 3) := by decide +kernel
theorem dX11_share_32 : decode cX11_share 32 = .ok (.ifCond .ne 9, 3) := by decide +kernel
theorem dX11_share_35 : decode cX11_share 35 = .ok (.aload_n 0, 1) := by decide +kernel
theorem dX11_share_36 : decode cX11_share 36 = .ok (.iconst 3, 1) := by decide +kernel
theorem dX11_share_37 : decode cX11_share 37 = .ok (.invokevirtual 128, 3) := by decide +kernel
theorem dX11_share_40 : decode cX11_share 40 = .ok (.ireturn, 1) := by decide +kernel
theorem dX11_share_41 : decode cX11_share 41 = .ok (.aload_n 0, 1) := by decide +kernel
theorem dX11_share_42 : decode cX11_share 42 = .ok (.getfield 37, 3) := by decide +kernel
theorem dX11_share_45 : decode cX11_share 45 = .ok (.aload_n 0, 1) := by decide +kernel
theorem dX11_share_46 : decode cX11_share 46 = .ok (.invokevirtual 131, 3) := by decide +kernel
theorem dX11_share_49 : decode cX11_share 49 = .ok (.iload_n 1, 1) := by decide +kernel
theorem dX11_share_50 : decode cX11_share 50 = .ok (.invokevirtual 145, 3) := by decide +kernel
theorem dX11_share_53 : decode cX11_share 53 = .ok (.istore_n 3, 1) := by decide +kernel
theorem dX11_share_54 : decode cX11_share 54 = .ok (.aload_n 0, 1) := by decide +kernel
theorem dX11_share_55 : decode cX11_share 55 = .ok (.getfield 37, 3) := by decide +kernel
theorem dX11_share_58 : decode cX11_share 58 = .ok (.aload_n 0, 1) := by decide +kernel
theorem dX11_share_59 : decode cX11_share 59 = .ok (.invokevirtual 131, 3) := by decide +kernel
theorem dX11_share_62 : decode cX11_share 62 = .ok (.iload_n 2, 1) := by decide +kernel
theorem dX11_share_63 : decode cX11_share 63 = .ok (.invokevirtual 148, 3) := by decide +kernel
theorem dX11_share_66 : decode cX11_share 66 = .ok (.istore 4, 2) := by decide +kernel
theorem dX11_share_68 : decode cX11_share 68 = .ok (.iload_n 3, 1) := by decide +kernel
theorem dX11_share_69 : decode cX11_share 69 = .ok (.ifCond .lt 8, 3) := by decide +kernel
theorem dX11_share_72 : decode cX11_share 72 = .ok (.iload 4, 2) := by decide +kernel
theorem dX11_share_74 : decode cX11_share 74 = .ok (.ifCond .gt 9, 3) := by decide +kernel
theorem dX11_share_77 : decode cX11_share 77 = .ok (.aload_n 0, 1) := by decide +kernel
theorem dX11_share_78 : decode cX11_share 78 = .ok (.iconst 4, 1) := by decide +kernel
theorem dX11_share_79 : decode cX11_share 79 = .ok (.invokevirtual 128, 3) := by decide +kernel
theorem dX11_share_82 : decode cX11_share 82 = .ok (.ireturn, 1) := by decide +kernel
theorem dX11_share_83 : decode cX11_share 83 = .ok (.aload_n 0, 1) := by decide +kernel
theorem dX11_share_84 : decode cX11_share 84 = .ok (.ldc2_w 151, 3) := by decide +kernel
theorem dX11_share_87 : decode cX11_share 87 = .ok (.iload_n 3, 1) := by decide +kernel
theorem dX11_share_88 : decode cX11_share 88 = .ok (.i2l, 1) := by decide +kernel
theorem dX11_share_89 : decode cX11_share 89 = .ok (.lmul, 1) := by decide +kernel
theorem dX11_share_90 : decode cX11_share 90 = .ok (.iload 4, 2) := by decide +kernel
theorem dX11_share_92 : decode cX11_share 92 = .ok (.i2l, 1) := by decide +kernel
theorem dX11_share_93 : decode cX11_share 93 = .ok (.ldiv, 1) := by decide +kernel
theorem dX11_share_94 : decode cX11_share 94 = .ok (.putfield 76, 3) := by decide +kernel
theorem dX11_share_97 : decode cX11_share 97 = .ok (.iconst 1, 1) := by decide +kernel
theorem dX11_share_98 : decode cX11_share 98 = .ok (.ireturn, 1) := by decide +kernel
theorem dX11_say_0 : decode cX11_say 0 = .ok (.aload_n 0, 1) := by decide +kernel
theorem dX11_say_1 : decode cX11_say 1 = .ok (.getfield 21, 3) := by decide +kernel
theorem dX11_say_4 : decode cX11_say 4 = .ok (.invokevirtual 153, 3) := by decide +kernel
theorem dX11_say_7 : decode cX11_say 7 = .ok (.aload_n 0, 1) := by decide +kernel
theorem dX11_say_8 : decode cX11_say 8 = .ok (.getfield 21, 3) := by decide +kernel
theorem dX11_say_11 : decode cX11_say 11 = .ok (.iload_n 1, 1) := by decide +kernel
theorem dX11_say_12 : decode cX11_say 12 = .ok (.iload_n 2, 1) := by decide +kernel
theorem dX11_say_13 : decode cX11_say 13 = .ok (.iload_n 3, 1) := by decide +kernel
theorem dX11_say_14 : decode cX11_say 14 = .ok (.iload 4, 2) := by decide +kernel
theorem dX11_say_16 : decode cX11_say 16 = .ok (.invokevirtual 156, 3) := by decide +kernel
theorem dX11_say_19 : decode cX11_say 19 = .ok (.ifCond .ne 5, 3) := by decide +kernel
theorem dX11_say_22 : decode cX11_say 22 = .ok (.iconst (-1), 1) := by decide +kernel
theorem dX11_say_23 : decode cX11_say 23 = .ok (.ireturn, 1) := by decide +kernel
theorem dX11_say_24 : decode cX11_say 24 = .ok (.iload_n 1, 1) := by decide +kernel
theorem dX11_say_25 : decode cX11_say 25 = .ok (.iconst 5, 1) := by decide +kernel
theorem dX11_say_26 : decode cX11_say 26 = .ok (.if_icmp .eq 9, 3) := by decide +kernel
theorem dX11_say_29 : decode cX11_say 29 = .ok (.iload_n 1, 1) := by decide +kernel
theorem dX11_say_30 : decode cX11_say 30 = .ok (.bipush 6, 2) := by decide +kernel
theorem dX11_say_32 : decode cX11_say 32 = .ok (.if_icmp .ne 8, 3) := by decide +kernel
theorem dX11_say_35 : decode cX11_say 35 = .ok (.iload 4, 2) := by decide +kernel
theorem dX11_say_37 : decode cX11_say 37 = .ok (.goto 4, 3) := by decide +kernel
theorem dX11_say_40 : decode cX11_say 40 = .ok (.iconst 0, 1) := by decide +kernel
theorem dX11_say_41 : decode cX11_say 41 = .ok (.istore 5, 2) := by decide +kernel
theorem dX11_say_43 : decode cX11_say 43 = .ok (.aload_n 0, 1) := by decide +kernel
theorem dX11_say_44 : decode cX11_say 44 = .ok (.getfield 21, 3) := by decide +kernel
theorem dX11_say_47 : decode cX11_say 47 = .ok (.iload_n 1, 1) := by decide +kernel
theorem dX11_say_48 : decode cX11_say 48 = .ok (.iload_n 2, 1) := by decide +kernel
theorem dX11_say_49 : decode cX11_say 49 = .ok (.iload_n 3, 1) := by decide +kernel
theorem dX11_say_50 : decode cX11_say 50 = .ok (.invokevirtual 160, 3) := by decide +kernel
theorem dX11_say_53 : decode cX11_say 53 = .ok (.ifCond .ne 9, 3) := by decide +kernel
theorem dX11_say_56 : decode cX11_say 56 = .ok (.aload_n 0, 1) := by decide +kernel
theorem dX11_say_57 : decode cX11_say 57 = .ok (.iconst 3, 1) := by decide +kernel
theorem dX11_say_58 : decode cX11_say 58 = .ok (.invokevirtual 128, 3) := by decide +kernel
theorem dX11_say_61 : decode cX11_say 61 = .ok (.ireturn, 1) := by decide +kernel
theorem dX11_say_62 : decode cX11_say 62 = .ok (.aload_n 0, 1) := by decide +kernel
theorem dX11_say_63 : decode cX11_say 63 = .ok (.getfield 21, 3) := by decide +kernel
theorem dX11_say_66 : decode cX11_say 66 = .ok (.iload_n 1, 1) := by decide +kernel
theorem dX11_say_67 : decode cX11_say 67 = .ok (.iload_n 2, 1) := by decide +kernel
theorem dX11_say_68 : decode cX11_say 68 = .ok (.iload_n 3, 1) := by decide +kernel
theorem dX11_say_69 : decode cX11_say 69 = .ok (.iload 5, 2) := by decide +kernel
theorem dX11_say_71 : decode cX11_say 71 = .ok (.invokevirtual 164, 3) := by decide +kernel
theorem dX11_say_74 : decode cX11_say 74 = .ok (.istore 6, 2) := by decide +kernel
theorem dX11_say_76 : decode cX11_say 76 = .ok (.iload 6, 2) := by decide +kernel
theorem dX11_say_78 : decode cX11_say 78 = .ok (.bipush (-9), 2) := by decide +kernel
theorem dX11_say_80 : decode cX11_say 80 = .ok (.if_icmp .eq 6, 3) := by decide +kernel
theorem dX11_say_83 : decode cX11_say 83 = .ok (.iload 6, 2) := by decide +kernel
theorem dX11_say_85 : decode cX11_say 85 = .ok (.ireturn, 1) := by decide +kernel
theorem dX11_say_86 : decode cX11_say 86 = .ok (.aload_n 0, 1) := by decide +kernel
theorem dX11_say_87 : decode cX11_say 87 = .ok (.getfield 21, 3) := by decide +kernel
theorem dX11_say_90 : decode cX11_say 90 = .ok (.getfield 168, 3) := by decide +kernel
theorem dX11_say_93 : decode cX11_say 93 = .ok (.sipush 200, 3) := by decide +kernel
theorem dX11_say_96 : decode cX11_say 96 = .ok (.if_icmp .lt 6, 3) := by decide +kernel
theorem dX11_say_99 : decode cX11_say 99 = .ok (.bipush (-2), 2) := by decide +kernel
theorem dX11_say_101 : decode cX11_say 101 = .ok (.ireturn, 1) := by decide +kernel
theorem dX11_say_102 : decode cX11_say 102 = .ok (.aload_n 0, 1) := by decide +kernel
theorem dX11_say_103 : decode cX11_say 103 = .ok (.getfield 21, 3) := by decide +kernel
theorem dX11_say_106 : decode cX11_say 106 = .ok (.iload_n 1, 1) := by decide +kernel
theorem dX11_say_107 : decode cX11_say 107 = .ok (.iload_n 2, 1) := by decide +kernel
theorem dX11_say_108 : decode cX11_say 108 = .ok (.iload_n 3, 1) := by decide +kernel
theorem dX11_say_109 : decode cX11_say 109 = .ok (.iload 5, 2) := by decide +kernel
theorem dX11_say_111 : decode cX11_say 111 = .ok (.invokevirtual 171, 3) := by decide +kernel
theorem dX11_say_114 : decode cX11_say 114 = .ok (.ifCond .eq 6, 3) := by decide +kernel
theorem dX11_say_117 : decode cX11_say 117 = .ok (.bipush (-4), 2) := by decide +kernel
theorem dX11_say_119 : decode cX11_say 119 = .ok (.ireturn, 1) := by decide +kernel
theorem dX11_say_120 : decode cX11_say 120 = .ok (.aload_n 0, 1) := by decide +kernel
theorem dX11_say_121 : decode cX11_say 121 = .ok (.getfield 46, 3) := by decide +kernel
theorem dX11_say_124 : decode cX11_say 124 = .ok (.invokevirtual 95, 3) := by decide +kernel
theorem dX11_say_127 : decode cX11_say 127 = .ok (.aload_n 0, 1) := by decide +kernel
theorem dX11_say_128 : decode cX11_say 128 = .ok (.getfield 21, 3) := by decide +kernel
theorem dX11_say_131 : decode cX11_say 131 = .ok (.iload_n 1, 1) := by decide +kernel
theorem dX11_say_132 : decode cX11_say 132 = .ok (.iload_n 2, 1) := by decide +kernel
theorem dX11_say_133 : decode cX11_say 133 = .ok (.iload_n 3, 1) := by decide +kernel
theorem dX11_say_134 : decode cX11_say 134 = .ok (.iload 5, 2) := by decide +kernel
theorem dX11_say_136 : decode cX11_say 136 = .ok (.invokevirtual 174, 3) := by decide +kernel
theorem dX11_say_139 : decode cX11_say 139 = .ok (.istore 7, 2) := by decide +kernel
theorem dX11_say_141 : decode cX11_say 141 = .ok (.aload_n 0, 1) := by decide +kernel
theorem dX11_say_142 : decode cX11_say 142 = .ok (.getfield 30, 3) := by decide +kernel
theorem dX11_say_145 : decode cX11_say 145 = .ok (.iload_n 1, 1) := by decide +kernel
theorem dX11_say_146 : decode cX11_say 146 = .ok (.invokevirtual 177, 3) := by decide +kernel
theorem dX11_say_149 : decode cX11_say 149 = .ok (.iload 7, 2) := by decide +kernel
theorem dX11_say_151 : decode cX11_say 151 = .ok (.ireturn, 1) := by decide +kernel
theorem dX11_unsay_0 : decode cX11_unsay 0 = .ok (.iload_n 1, 1) := by decide +kernel
theorem dX11_unsay_1 : decode cX11_unsay 1 = .ok (.aload_n 0, 1) := by decide +kernel
theorem dX11_unsay_2 : decode cX11_unsay 2 = .ok (.getfield 21, 3) := by decide +kernel
theorem dX11_unsay_5 : decode cX11_unsay 5 = .ok (.getfield 168, 3) := by decide +kernel
theorem dX11_unsay_8 : decode cX11_unsay 8 = .ok (.invokestatic 91, 3) := by decide +kernel
theorem dX11_unsay_11 : decode cX11_unsay 11 = .ok (.ifCond .eq 15, 3) := by decide +kernel
theorem dX11_unsay_14 : decode cX11_unsay 14 = .ok (.aload_n 0, 1) := by decide +kernel
theorem dX11_unsay_15 : decode cX11_unsay 15 = .ok (.getfield 21, 3) := by decide +kernel
theorem dX11_unsay_18 : decode cX11_unsay 18 = .ok (.getfield 181, 3) := by decide +kernel
theorem dX11_unsay_21 : decode cX11_unsay 21 = .ok (.iload_n 1, 1) := by decide +kernel
theorem dX11_unsay_22 : decode cX11_unsay 22 = .ok (.baload, 1) := by decide +kernel
theorem dX11_unsay_23 : decode cX11_unsay 23 = .ok (.ifCond .ne 5, 3) := by decide +kernel
theorem dX11_unsay_26 : decode cX11_unsay 26 = .ok (.iconst (-1), 1) := by decide +kernel
theorem dX11_unsay_27 : decode cX11_unsay 27 = .ok (.ireturn, 1) := by decide +kernel
theorem dX11_unsay_28 : decode cX11_unsay 28 = .ok (.aload_n 0, 1) := by decide +kernel
theorem dX11_unsay_29 : decode cX11_unsay 29 = .ok (.getfield 46, 3) := by decide +kernel
theorem dX11_unsay_32 : decode cX11_unsay 32 = .ok (.invokevirtual 95, 3) := by decide +kernel
theorem dX11_unsay_35 : decode cX11_unsay 35 = .ok (.aload_n 0, 1) := by decide +kernel
theorem dX11_unsay_36 : decode cX11_unsay 36 = .ok (.getfield 21, 3) := by decide +kernel
theorem dX11_unsay_39 : decode cX11_unsay 39 = .ok (.iload_n 1, 1) := by decide +kernel
theorem dX11_unsay_40 : decode cX11_unsay 40 = .ok (.invokevirtual 185, 3) := by decide +kernel
theorem dX11_unsay_43 : decode cX11_unsay 43 = .ok (.aload_n 0, 1) := by decide +kernel
theorem dX11_unsay_44 : decode cX11_unsay 44 = .ok (.getfield 30, 3) := by decide +kernel
theorem dX11_unsay_47 : decode cX11_unsay 47 = .ok (.aload_n 0, 1) := by decide +kernel
theorem dX11_unsay_48 : decode cX11_unsay 48 = .ok (.getfield 21, 3) := by decide +kernel
theorem dX11_unsay_51 : decode cX11_unsay 51 = .ok (.getfield 188, 3) := by decide +kernel
theorem dX11_unsay_54 : decode cX11_unsay 54 = .ok (.iload_n 1, 1) := by decide +kernel
theorem dX11_unsay_55 : decode cX11_unsay 55 = .ok (.iaload, 1) := by decide +kernel
theorem dX11_unsay_56 : decode cX11_unsay 56 = .ok (.invokevirtual 177, 3) := by decide +kernel
theorem dX11_unsay_59 : decode cX11_unsay 59 = .ok (.aload_n 0, 1) := by decide +kernel
theorem dX11_unsay_60 : decode cX11_unsay 60 = .ok (.getfield 21, 3) := by decide +kernel
theorem dX11_unsay_63 : decode cX11_unsay 63 = .ok (.getfield 191, 3) := by decide +kernel
theorem dX11_unsay_66 : decode cX11_unsay 66 = .ok (.ireturn, 1) := by decide +kernel
theorem dX11_clash_0 : decode cX11_clash 0 = .ok (.iload_n 1, 1) := by decide +kernel
theorem dX11_clash_1 : decode cX11_clash 1 = .ok (.aload_n 0, 1) := by decide +kernel
theorem dX11_clash_2 : decode cX11_clash 2 = .ok (.getfield 21, 3) := by decide +kernel
theorem dX11_clash_5 : decode cX11_clash 5 = .ok (.getfield 194, 3) := by decide +kernel
theorem dX11_clash_8 : decode cX11_clash 8 = .ok (.invokestatic 91, 3) := by decide +kernel
theorem dX11_clash_11 : decode cX11_clash 11 = .ok (.ifCond .eq 15, 3) := by decide +kernel
theorem dX11_clash_14 : decode cX11_clash 14 = .ok (.aload_n 0, 1) := by decide +kernel
theorem dX11_clash_15 : decode cX11_clash 15 = .ok (.getfield 21, 3) := by decide +kernel
theorem dX11_clash_18 : decode cX11_clash 18 = .ok (.getfield 197, 3) := by decide +kernel
theorem dX11_clash_21 : decode cX11_clash 21 = .ok (.iload_n 1, 1) := by decide +kernel
theorem dX11_clash_22 : decode cX11_clash 22 = .ok (.iaload, 1) := by decide +kernel
theorem dX11_clash_23 : decode cX11_clash 23 = .ok (.goto 5, 3) := by decide +kernel
theorem dX11_clash_26 : decode cX11_clash 26 = .ok (.bipush (-9), 2) := by decide +kernel
theorem dX11_clash_28 : decode cX11_clash 28 = .ok (.ireturn, 1) := by decide +kernel
theorem dX11_sentence_0 : decode cX11_sentence 0 = .ok (.iload_n 1, 1) := by decide +kernel
theorem dX11_sentence_1 : decode cX11_sentence 1 = .ok (.aload_n 0, 1) := by decide +kernel
theorem dX11_sentence_2 : decode cX11_sentence 2 = .ok (.getfield 21, 3) := by decide +kernel
theorem dX11_sentence_5 : decode cX11_sentence 5 = .ok (.getfield 168, 3) := by decide +kernel
theorem dX11_sentence_8 : decode cX11_sentence 8 = .ok (.invokestatic 91, 3) := by decide +kernel
theorem dX11_sentence_11 : decode cX11_sentence 11 = .ok (.ifCond .eq 11, 3) := by decide +kernel
theorem dX11_sentence_14 : decode cX11_sentence 14 = .ok (.iload_n 2, 1) := by decide +kernel
theorem dX11_sentence_15 : decode cX11_sentence 15 = .ok (.iconst 5, 1) := by decide +kernel
theorem dX11_sentence_16 : decode cX11_sentence 16 = .ok (.invokestatic 91, 3) := by decide +kernel
theorem dX11_sentence_19 : decode cX11_sentence 19 = .ok (.ifCond .ne 5, 3) := by decide +kernel
theorem dX11_sentence_22 : decode cX11_sentence 22 = .ok (.iconst (-1), 1) := by decide +kernel
theorem dX11_sentence_23 : decode cX11_sentence 23 = .ok (.ireturn, 1) := by decide +kernel
theorem dX11_sentence_24 : decode cX11_sentence 24 = .ok (.aload_n 0, 1) := by decide +kernel
theorem dX11_sentence_25 : decode cX11_sentence 25 = .ok (.getfield 21, 3) := by decide +kernel
theorem dX11_sentence_28 : decode cX11_sentence 28 = .ok (.iload_n 1, 1) := by decide +kernel
theorem dX11_sentence_29 : decode cX11_sentence 29 = .ok (.iload_n 2, 1) := by decide +kernel
theorem dX11_sentence_30 : decode cX11_sentence 30 = .ok (.invokevirtual 200, 3) := by decide +kernel
theorem dX11_sentence_33 : decode cX11_sentence 33 = .ok (.ireturn, 1) := by decide +kernel
theorem dX11_place_0 : decode cX11_place 0 = .ok (.aload_n 0, 1) := by decide +kernel
theorem dX11_place_1 : decode cX11_place 1 = .ok (.getfield 10, 3) := by decide +kernel
theorem dX11_place_4 : decode cX11_place 4 = .ok (.iload_n 1, 1) := by decide +kernel
theorem dX11_place_5 : decode cX11_place 5 = .ok (.invokevirtual 109, 3) := by decide +kernel
theorem dX11_place_8 : decode cX11_place 8 = .ok (.ifCond .eq 11, 3) := by decide +kernel
theorem dX11_place_11 : decode cX11_place 11 = .ok (.iload_n 2, 1) := by decide +kernel
theorem dX11_place_12 : decode cX11_place 12 = .ok (.iconst 3, 1) := by decide +kernel
theorem dX11_place_13 : decode cX11_place 13 = .ok (.invokestatic 91, 3) := by decide +kernel
theorem dX11_place_16 : decode cX11_place 16 = .ok (.ifCond .ne 5, 3) := by decide +kernel
theorem dX11_place_19 : decode cX11_place 19 = .ok (.iconst (-1), 1) := by decide +kernel
theorem dX11_place_20 : decode cX11_place 20 = .ok (.ireturn, 1) := by decide +kernel
theorem dX11_place_21 : decode cX11_place 21 = .ok (.iload_n 2, 1) := by decide +kernel
theorem dX11_place_22 : decode cX11_place 22 = .ok (.lookupswitch 54 #[(0, 26), (1, 40)], 26) := by decide +kernel
theorem dX11_place_48 : decode cX11_place 48 = .ok (.aload_n 0, 1) := by decide +kernel
theorem dX11_place_49 : decode cX11_place 49 = .ok (.getfield 21, 3) := by decide +kernel
theorem dX11_place_52 : decode cX11_place 52 = .ok (.getfield 203, 3) := by decide +kernel
theorem dX11_place_55 : decode cX11_place 55 = .ok (.iload_n 1, 1) := by decide +kernel
theorem dX11_place_56 : decode cX11_place 56 = .ok (.invokevirtual 206, 3) := by decide +kernel
theorem dX11_place_59 : decode cX11_place 59 = .ok (.goto 26, 3) := by decide +kernel
theorem dX11_place_62 : decode cX11_place 62 = .ok (.aload_n 0, 1) := by decide +kernel
theorem dX11_place_63 : decode cX11_place 63 = .ok (.getfield 21, 3) := by decide +kernel
theorem dX11_place_66 : decode cX11_place 66 = .ok (.getfield 203, 3) := by decide +kernel
theorem dX11_place_69 : decode cX11_place 69 = .ok (.iload_n 1, 1) := by decide +kernel
theorem dX11_place_70 : decode cX11_place 70 = .ok (.invokevirtual 211, 3) := by decide +kernel
theorem dX11_place_73 : decode cX11_place 73 = .ok (.goto 12, 3) := by decide +kernel
theorem dX11_place_76 : decode cX11_place 76 = .ok (.aload_n 0, 1) := by decide +kernel
theorem dX11_place_77 : decode cX11_place 77 = .ok (.getfield 21, 3) := by decide +kernel
theorem dX11_place_80 : decode cX11_place 80 = .ok (.getfield 214, 3) := by decide +kernel
theorem dX11_place_83 : decode cX11_place 83 = .ok (.iload_n 1, 1) := by decide +kernel
theorem dX11_place_84 : decode cX11_place 84 = .ok (.iaload, 1) := by decide +kernel
theorem dX11_place_85 : decode cX11_place 85 = .ok (.ireturn, 1) := by decide +kernel
theorem dX11_exit_0 : decode cX11_exit 0 = .ok (.aload_n 0, 1) := by decide +kernel
theorem dX11_exit_1 : decode cX11_exit 1 = .ok (.getfield 10, 3) := by decide +kernel
theorem dX11_exit_4 : decode cX11_exit 4 = .ok (.iload_n 1, 1) := by decide +kernel
theorem dX11_exit_5 : decode cX11_exit 5 = .ok (.invokevirtual 109, 3) := by decide +kernel
theorem dX11_exit_8 : decode cX11_exit 8 = .ok (.ifCond .eq 20, 3) := by decide +kernel
theorem dX11_exit_11 : decode cX11_exit 11 = .ok (.iload_n 2, 1) := by decide +kernel
theorem dX11_exit_12 : decode cX11_exit 12 = .ok (.bipush 10, 2) := by decide +kernel
theorem dX11_exit_14 : decode cX11_exit 14 = .ok (.invokestatic 91, 3) := by decide +kernel
theorem dX11_exit_17 : decode cX11_exit 17 = .ok (.ifCond .eq 11, 3) := by decide +kernel
theorem dX11_exit_20 : decode cX11_exit 20 = .ok (.iload_n 3, 1) := by decide +kernel
theorem dX11_exit_21 : decode cX11_exit 21 = .ok (.iconst 4, 1) := by decide +kernel
theorem dX11_exit_22 : decode cX11_exit 22 = .ok (.invokestatic 91, 3) := by decide +kernel
theorem dX11_exit_25 : decode cX11_exit 25 = .ok (.ifCond .ne 5, 3) := by decide +kernel
theorem dX11_exit_28 : decode cX11_exit 28 = .ok (.iconst (-1), 1) := by decide +kernel
theorem dX11_exit_29 : decode cX11_exit 29 = .ok (.ireturn, 1) := by decide +kernel
theorem dX11_exit_30 : decode cX11_exit 30 = .ok (.aload_n 0, 1) := by decide +kernel
theorem dX11_exit_31 : decode cX11_exit 31 = .ok (.getfield 10, 3) := by decide +kernel
theorem dX11_exit_34 : decode cX11_exit 34 = .ok (.iload_n 1, 1) := by decide +kernel
theorem dX11_exit_35 : decode cX11_exit 35 = .ok (.invokevirtual 125, 3) := by decide +kernel
theorem dX11_exit_38 : decode cX11_exit 38 = .ok (.ifCond .eq 9, 3) := by decide +kernel
theorem dX11_exit_41 : decode cX11_exit 41 = .ok (.aload_n 0, 1) := by decide +kernel
theorem dX11_exit_42 : decode cX11_exit 42 = .ok (.iconst 3, 1) := by decide +kernel
theorem dX11_exit_43 : decode cX11_exit 43 = .ok (.invokevirtual 128, 3) := by decide +kernel
theorem dX11_exit_46 : decode cX11_exit 46 = .ok (.ireturn, 1) := by decide +kernel
theorem dX11_exit_47 : decode cX11_exit 47 = .ok (.aload_n 0, 1) := by decide +kernel
theorem dX11_exit_48 : decode cX11_exit 48 = .ok (.getfield 30, 3) := by decide +kernel
theorem dX11_exit_51 : decode cX11_exit 51 = .ok (.iload_n 1, 1) := by decide +kernel
theorem dX11_exit_52 : decode cX11_exit 52 = .ok (.bipush 10, 2) := by decide +kernel
theorem dX11_exit_54 : decode cX11_exit 54 = .ok (.imul, 1) := by decide +kernel
theorem dX11_exit_55 : decode cX11_exit 55 = .ok (.iload_n 2, 1) := by decide +kernel
theorem dX11_exit_56 : decode cX11_exit 56 = .ok (.iadd, 1) := by decide +kernel
theorem dX11_exit_57 : decode cX11_exit 57 = .ok (.iload_n 3, 1) := by decide +kernel
theorem dX11_exit_58 : decode cX11_exit 58 = .ok (.invokevirtual 217, 3) := by decide +kernel
theorem dX11_exit_61 : decode cX11_exit 61 = .ok (.ireturn, 1) := by decide +kernel
theorem dX11_flag_0 : decode cX11_flag 0 = .ok (.aload_n 0, 1) := by decide +kernel
theorem dX11_flag_1 : decode cX11_flag 1 = .ok (.getfield 10, 3) := by decide +kernel
theorem dX11_flag_4 : decode cX11_flag 4 = .ok (.iload_n 1, 1) := by decide +kernel
theorem dX11_flag_5 : decode cX11_flag 5 = .ok (.invokevirtual 109, 3) := by decide +kernel
theorem dX11_flag_8 : decode cX11_flag 8 = .ok (.ifCond .eq 12, 3) := by decide +kernel
theorem dX11_flag_11 : decode cX11_flag 11 = .ok (.iload_n 2, 1) := by decide +kernel
theorem dX11_flag_12 : decode cX11_flag 12 = .ok (.bipush 6, 2) := by decide +kernel
theorem dX11_flag_14 : decode cX11_flag 14 = .ok (.invokestatic 91, 3) := by decide +kernel
theorem dX11_flag_17 : decode cX11_flag 17 = .ok (.ifCond .ne 5, 3) := by decide +kernel
theorem dX11_flag_20 : decode cX11_flag 20 = .ok (.iconst (-1), 1) := by decide +kernel
theorem dX11_flag_21 : decode cX11_flag 21 = .ok (.ireturn, 1) := by decide +kernel
theorem dX11_flag_22 : decode cX11_flag 22 = .ok (.aload_n 0, 1) := by decide +kernel
theorem dX11_flag_23 : decode cX11_flag 23 = .ok (.getfield 10, 3) := by decide +kernel
theorem dX11_flag_26 : decode cX11_flag 26 = .ok (.iload_n 1, 1) := by decide +kernel
theorem dX11_flag_27 : decode cX11_flag 27 = .ok (.iload_n 2, 1) := by decide +kernel
theorem dX11_flag_28 : decode cX11_flag 28 = .ok (.invokevirtual 220, 3) := by decide +kernel
theorem dX11_flag_31 : decode cX11_flag 31 = .ok (.ifCond .ne 9, 3) := by decide +kernel
theorem dX11_flag_34 : decode cX11_flag 34 = .ok (.aload_n 0, 1) := by decide +kernel
theorem dX11_flag_35 : decode cX11_flag 35 = .ok (.iconst 3, 1) := by decide +kernel
theorem dX11_flag_36 : decode cX11_flag 36 = .ok (.invokevirtual 128, 3) := by decide +kernel
theorem dX11_flag_39 : decode cX11_flag 39 = .ok (.ireturn, 1) := by decide +kernel
theorem dX11_flag_40 : decode cX11_flag 40 = .ok (.aload_n 0, 1) := by decide +kernel
theorem dX11_flag_41 : decode cX11_flag 41 = .ok (.getfield 21, 3) := by decide +kernel
theorem dX11_flag_44 : decode cX11_flag 44 = .ok (.iload_n 1, 1) := by decide +kernel
theorem dX11_flag_45 : decode cX11_flag 45 = .ok (.iload_n 2, 1) := by decide +kernel
theorem dX11_flag_46 : decode cX11_flag 46 = .ok (.invokevirtual 223, 3) := by decide +kernel
theorem dX11_flag_49 : decode cX11_flag 49 = .ok (.ireturn, 1) := by decide +kernel
theorem dX11_key_0 : decode cX11_key 0 = .ok (.aload_n 0, 1) := by decide +kernel
theorem dX11_key_1 : decode cX11_key 1 = .ok (.getfield 10, 3) := by decide +kernel
theorem dX11_key_4 : decode cX11_key 4 = .ok (.iload_n 1, 1) := by decide +kernel
theorem dX11_key_5 : decode cX11_key 5 = .ok (.invokevirtual 109, 3) := by decide +kernel
theorem dX11_key_8 : decode cX11_key 8 = .ok (.ifCond .ne 5, 3) := by decide +kernel
theorem dX11_key_11 : decode cX11_key 11 = .ok (.iconst (-1), 1) := by decide +kernel
theorem dX11_key_12 : decode cX11_key 12 = .ok (.ireturn, 1) := by decide +kernel
theorem dX11_key_13 : decode cX11_key 13 = .ok (.aload_n 0, 1) := by decide +kernel
theorem dX11_key_14 : decode cX11_key 14 = .ok (.getfield 10, 3) := by decide +kernel
theorem dX11_key_17 : decode cX11_key 17 = .ok (.iload_n 1, 1) := by decide +kernel
theorem dX11_key_18 : decode cX11_key 18 = .ok (.invokevirtual 226, 3) := by decide +kernel
theorem dX11_key_21 : decode cX11_key 21 = .ok (.ifCond .ne 9, 3) := by decide +kernel
theorem dX11_key_24 : decode cX11_key 24 = .ok (.aload_n 0, 1) := by decide +kernel
theorem dX11_key_25 : decode cX11_key 25 = .ok (.iconst 3, 1) := by decide +kernel
theorem dX11_key_26 : decode cX11_key 26 = .ok (.invokevirtual 128, 3) := by decide +kernel
theorem dX11_key_29 : decode cX11_key 29 = .ok (.ireturn, 1) := by decide +kernel
theorem dX11_key_30 : decode cX11_key 30 = .ok (.aload_n 0, 1) := by decide +kernel
theorem dX11_key_31 : decode cX11_key 31 = .ok (.getfield 21, 3) := by decide +kernel
theorem dX11_key_34 : decode cX11_key 34 = .ok (.iload_n 1, 1) := by decide +kernel
theorem dX11_key_35 : decode cX11_key 35 = .ok (.invokevirtual 229, 3) := by decide +kernel
theorem dX11_key_38 : decode cX11_key 38 = .ok (.ireturn, 1) := by decide +kernel
theorem dX11_way_0 : decode cX11_way 0 = .ok (.aload_n 0, 1) := by decide +kernel
theorem dX11_way_1 : decode cX11_way 1 = .ok (.iload_n 1, 1) := by decide +kernel
theorem dX11_way_2 : decode cX11_way 2 = .ok (.iload_n 2, 1) := by decide +kernel
theorem dX11_way_3 : decode cX11_way 3 = .ok (.invokevirtual 232, 3) := by decide +kernel
theorem dX11_way_6 : decode cX11_way 6 = .ok (.istore 4, 2) := by decide +kernel
theorem dX11_way_8 : decode cX11_way 8 = .ok (.iload 4, 2) := by decide +kernel
theorem dX11_way_10 : decode cX11_way 10 = .ok (.ifCond .eq 6, 3) := by decide +kernel
theorem dX11_way_13 : decode cX11_way 13 = .ok (.iload 4, 2) := by decide +kernel
theorem dX11_way_15 : decode cX11_way 15 = .ok (.ireturn, 1) := by decide +kernel
theorem dX11_way_16 : decode cX11_way 16 = .ok (.aload_n 0, 1) := by decide +kernel
theorem dX11_way_17 : decode cX11_way 17 = .ok (.getfield 30, 3) := by decide +kernel
theorem dX11_way_20 : decode cX11_way 20 = .ok (.iload_n 1, 1) := by decide +kernel
theorem dX11_way_21 : decode cX11_way 21 = .ok (.iload_n 3, 1) := by decide +kernel
theorem dX11_way_22 : decode cX11_way 22 = .ok (.invokevirtual 235, 3) := by decide +kernel
theorem dX11_way_25 : decode cX11_way 25 = .ok (.aload_n 0, 1) := by decide +kernel
theorem dX11_way_26 : decode cX11_way 26 = .ok (.getfield 30, 3) := by decide +kernel
theorem dX11_way_29 : decode cX11_way 29 = .ok (.getfield 239, 3) := by decide +kernel
theorem dX11_way_32 : decode cX11_way 32 = .ok (.iload_n 2, 1) := by decide +kernel
theorem dX11_way_33 : decode cX11_way 33 = .ok (.iaload, 1) := by decide +kernel
theorem dX11_way_34 : decode cX11_way 34 = .ok (.ireturn, 1) := by decide +kernel
theorem dX11_toward_0 : decode cX11_toward 0 = .ok (.aload_n 0, 1) := by decide +kernel
theorem dX11_toward_1 : decode cX11_toward 1 = .ok (.iload_n 1, 1) := by decide +kernel
theorem dX11_toward_2 : decode cX11_toward 2 = .ok (.iload_n 2, 1) := by decide +kernel
theorem dX11_toward_3 : decode cX11_toward 3 = .ok (.invokevirtual 232, 3) := by decide +kernel
theorem dX11_toward_6 : decode cX11_toward 6 = .ok (.istore 4, 2) := by decide +kernel
theorem dX11_toward_8 : decode cX11_toward 8 = .ok (.iload 4, 2) := by decide +kernel
theorem dX11_toward_10 : decode cX11_toward 10 = .ok (.ifCond .eq 6, 3) := by decide +kernel
theorem dX11_toward_13 : decode cX11_toward 13 = .ok (.iload 4, 2) := by decide +kernel
theorem dX11_toward_15 : decode cX11_toward 15 = .ok (.ireturn, 1) := by decide +kernel
theorem dX11_toward_16 : decode cX11_toward 16 = .ok (.aload_n 0, 1) := by decide +kernel
theorem dX11_toward_17 : decode cX11_toward 17 = .ok (.getfield 30, 3) := by decide +kernel
theorem dX11_toward_20 : decode cX11_toward 20 = .ok (.iload_n 1, 1) := by decide +kernel
theorem dX11_toward_21 : decode cX11_toward 21 = .ok (.iload_n 3, 1) := by decide +kernel
theorem dX11_toward_22 : decode cX11_toward 22 = .ok (.invokevirtual 235, 3) := by decide +kernel
theorem dX11_toward_25 : decode cX11_toward 25 = .ok (.aload_n 0, 1) := by decide +kernel
theorem dX11_toward_26 : decode cX11_toward 26 = .ok (.getfield 30, 3) := by decide +kernel
theorem dX11_toward_29 : decode cX11_toward 29 = .ok (.getfield 242, 3) := by decide +kernel
theorem dX11_toward_32 : decode cX11_toward 32 = .ok (.iload_n 2, 1) := by decide +kernel
theorem dX11_toward_33 : decode cX11_toward 33 = .ok (.iaload, 1) := by decide +kernel
theorem dX11_toward_34 : decode cX11_toward 34 = .ok (.ireturn, 1) := by decide +kernel
theorem dX11_begin_0 : decode cX11_begin 0 = .ok (.aload_n 0, 1) := by decide +kernel
theorem dX11_begin_1 : decode cX11_begin 1 = .ok (.getfield 10, 3) := by decide +kernel
theorem dX11_begin_4 : decode cX11_begin 4 = .ok (.iload_n 1, 1) := by decide +kernel
theorem dX11_begin_5 : decode cX11_begin 5 = .ok (.invokevirtual 109, 3) := by decide +kernel
theorem dX11_begin_8 : decode cX11_begin 8 = .ok (.ifCond .ne 5, 3) := by decide +kernel
theorem dX11_begin_11 : decode cX11_begin 11 = .ok (.iconst (-1), 1) := by decide +kernel
theorem dX11_begin_12 : decode cX11_begin 12 = .ok (.ireturn, 1) := by decide +kernel
theorem dX11_begin_13 : decode cX11_begin 13 = .ok (.aload_n 0, 1) := by decide +kernel
theorem dX11_begin_14 : decode cX11_begin 14 = .ok (.getfield 10, 3) := by decide +kernel
theorem dX11_begin_17 : decode cX11_begin 17 = .ok (.iload_n 1, 1) := by decide +kernel
theorem dX11_begin_18 : decode cX11_begin 18 = .ok (.invokevirtual 125, 3) := by decide +kernel
theorem dX11_begin_21 : decode cX11_begin 21 = .ok (.iconst 5, 1) := by decide +kernel
theorem dX11_begin_22 : decode cX11_begin 22 = .ok (.if_icmp .eq 9, 3) := by decide +kernel
theorem dX11_begin_25 : decode cX11_begin 25 = .ok (.aload_n 0, 1) := by decide +kernel
theorem dX11_begin_26 : decode cX11_begin 26 = .ok (.iconst 3, 1) := by decide +kernel
theorem dX11_begin_27 : decode cX11_begin 27 = .ok (.invokevirtual 128, 3) := by decide +kernel
theorem dX11_begin_30 : decode cX11_begin 30 = .ok (.ireturn, 1) := by decide +kernel
theorem dX11_begin_31 : decode cX11_begin 31 = .ok (.aload_n 0, 1) := by decide +kernel
theorem dX11_begin_32 : decode cX11_begin 32 = .ok (.getfield 21, 3) := by decide +kernel
theorem dX11_begin_35 : decode cX11_begin 35 = .ok (.getfield 203, 3) := by decide +kernel
theorem dX11_begin_38 : decode cX11_begin 38 = .ok (.iload_n 1, 1) := by decide +kernel
theorem dX11_begin_39 : decode cX11_begin 39 = .ok (.invokevirtual 245, 3) := by decide +kernel
theorem dX11_begin_42 : decode cX11_begin 42 = .ok (.istore_n 2, 1) := by decide +kernel
theorem dX11_begin_43 : decode cX11_begin 43 = .ok (.iload_n 2, 1) := by decide +kernel
theorem dX11_begin_44 : decode cX11_begin 44 = .ok (.bipush (-9), 2) := by decide +kernel
theorem dX11_begin_46 : decode cX11_begin 46 = .ok (.if_icmp .ne 9, 3) := by decide +kernel
theorem dX11_begin_49 : decode cX11_begin 49 = .ok (.aload_n 0, 1) := by decide +kernel
theorem dX11_begin_50 : decode cX11_begin 50 = .ok (.iconst 1, 1) := by decide +kernel
theorem dX11_begin_51 : decode cX11_begin 51 = .ok (.invokevirtual 128, 3) := by decide +kernel
theorem dX11_begin_54 : decode cX11_begin 54 = .ok (.ireturn, 1) := by decide +kernel
theorem dX11_begin_55 : decode cX11_begin 55 = .ok (.aload_n 0, 1) := by decide +kernel
theorem dX11_begin_56 : decode cX11_begin 56 = .ok (.getfield 46, 3) := by decide +kernel
theorem dX11_begin_59 : decode cX11_begin 59 = .ok (.iload_n 1, 1) := by decide +kernel
theorem dX11_begin_60 : decode cX11_begin 60 = .ok (.invokevirtual 248, 3) := by decide +kernel
theorem dX11_begin_63 : decode cX11_begin 63 = .ok (.iload_n 2, 1) := by decide +kernel
theorem dX11_begin_64 : decode cX11_begin 64 = .ok (.ireturn, 1) := by decide +kernel
theorem dX11_act_0 : decode cX11_act 0 = .ok (.aload_n 0, 1) := by decide +kernel
