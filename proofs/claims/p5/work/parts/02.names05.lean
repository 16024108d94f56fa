theorem dX7_keep_77 : decode cX7_keep 77 = .ok (.getfield 80, 3) := by decide +kernel
theorem dX7_keep_80 : decode cX7_keep 80 = .ok (.if_icmp .ne 11, 3) := by decide +kernel
theorem dX7_keep_83 : decode cX7_keep 83 = .ok (.aload_n 0, 1) := by decide +kernel
theorem dX7_keep_84 : decode cX7_keep 84 = .ok (.aload_n 0, 1) := by decide +kernel
theorem dX7_keep_85 : decode cX7_keep 85 = .ok (.getfield 86, 3) := by decide +kernel
theorem dX7_keep_88 : decode cX7_keep 88 = .ok (.putfield 83, 3) := by decide +kernel
theorem dX7_keep_91 : decode cX7_keep 91 = .ok (.aload_n 0, 1) := by decide +kernel
theorem dX7_keep_92 : decode cX7_keep 92 = .ok (.dup, 1) := by decide +kernel
theorem dX7_keep_93 : decode cX7_keep 93 = .ok (.getfield 86, 3) := by decide +kernel
theorem dX7_keep_96 : decode cX7_keep 96 = .ok (.iconst 1, 1) := by decide +kernel
theorem dX7_keep_97 : decode cX7_keep 97 = .ok (.iadd, 1) := by decide +kernel
theorem dX7_keep_98 : decode cX7_keep 98 = .ok (.putfield 86, 3) := by decide +kernel
theorem dX7_keep_101 : decode cX7_keep 101 = .ok (.return_, 1) := by decide +kernel
theorem dX7_weightOf_0 : decode cX7_weightOf 0 = .ok (.iconst 2, 1) := by decide +kernel
theorem dX7_weightOf_1 : decode cX7_weightOf 1 = .ok (.iload_n 0, 1) := by decide +kernel
theorem dX7_weightOf_2 : decode cX7_weightOf 2 = .ok (.imul, 1) := by decide +kernel
theorem dX7_weightOf_3 : decode cX7_weightOf 3 = .ok (.iconst 1, 1) := by decide +kernel
theorem dX7_weightOf_4 : decode cX7_weightOf 4 = .ok (.iadd, 1) := by decide +kernel
theorem dX7_weightOf_5 : decode cX7_weightOf 5 = .ok (.ldc 163, 2) := by decide +kernel
theorem dX7_weightOf_7 : decode cX7_weightOf 7 = .ok (.imul, 1) := by decide +kernel
theorem dX7_weightOf_8 : decode cX7_weightOf 8 = .ok (.ireturn, 1) := by decide +kernel
theorem dX7_markOfScene_0 : decode cX7_markOfScene 0 = .ok (.iconst 0, 1) := by decide +kernel
theorem dX7_markOfScene_1 : decode cX7_markOfScene 1 = .ok (.istore_n 1, 1) := by decide +kernel
theorem dX7_markOfScene_2 : decode cX7_markOfScene 2 = .ok (.iconst 0, 1) := by decide +kernel
theorem dX7_markOfScene_3 : decode cX7_markOfScene 3 = .ok (.istore_n 2, 1) := by decide +kernel
theorem dX7_markOfScene_4 : decode cX7_markOfScene 4 = .ok (.iload_n 2, 1) := by decide +kernel
theorem dX7_markOfScene_5 : decode cX7_markOfScene 5 = .ok (.bipush 30, 2) := by decide +kernel
theorem dX7_markOfScene_7 : decode cX7_markOfScene 7 = .ok (.if_icmp .ge 26, 3) := by decide +kernel
theorem dX7_markOfScene_10 : decode cX7_markOfScene 10 = .ok (.iload_n 1, 1) := by decide +kernel
theorem dX7_markOfScene_11 : decode cX7_markOfScene 11 = .ok (.aload_n 0, 1) := by decide +kernel
theorem dX7_markOfScene_12 : decode cX7_markOfScene 12 = .ok (.getfield 39, 3) := by decide +kernel
theorem dX7_markOfScene_15 : decode cX7_markOfScene 15 = .ok (.getfield 65, 3) := by decide +kernel
theorem dX7_markOfScene_18 : decode cX7_markOfScene 18 = .ok (.iload_n 2, 1) := by decide +kernel
theorem dX7_markOfScene_19 : decode cX7_markOfScene 19 = .ok (.iaload, 1) := by decide +kernel
theorem dX7_markOfScene_20 : decode cX7_markOfScene 20 = .ok (.iload_n 2, 1) := by decide +kernel
theorem dX7_markOfScene_21 : decode cX7_markOfScene 21 = .ok (.invokestatic 154, 3) := by decide +kernel
theorem dX7_markOfScene_24 : decode cX7_markOfScene 24 = .ok (.imul, 1) := by decide +kernel
theorem dX7_markOfScene_25 : decode cX7_markOfScene 25 = .ok (.iadd, 1) := by decide +kernel
theorem dX7_markOfScene_26 : decode cX7_markOfScene 26 = .ok (.istore_n 1, 1) := by decide +kernel
theorem dX7_markOfScene_27 : decode cX7_markOfScene 27 = .ok (.iinc 2 1, 3) := by decide +kernel
theorem dX7_markOfScene_30 : decode cX7_markOfScene 30 = .ok (.goto (-26), 3) := by decide +kernel
theorem dX7_markOfScene_33 : decode cX7_markOfScene 33 = .ok (.iload_n 1, 1) := by decide +kernel
theorem dX7_markOfScene_34 : decode cX7_markOfScene 34 = .ok (.ireturn, 1) := by decide +kernel
theorem dX7_slotFor_0 : decode cX7_slotFor 0 = .ok (.iload_n 1, 1) := by decide +kernel
theorem dX7_slotFor_1 : decode cX7_slotFor 1 = .ok (.ldc 163, 2) := by decide +kernel
theorem dX7_slotFor_3 : decode cX7_slotFor 3 = .ok (.imul, 1) := by decide +kernel
theorem dX7_slotFor_4 : decode cX7_slotFor 4 = .ok (.bipush 22, 2) := by decide +kernel
theorem dX7_slotFor_6 : decode cX7_slotFor 6 = .ok (.iushr, 1) := by decide +kernel
theorem dX7_slotFor_7 : decode cX7_slotFor 7 = .ok (.istore_n 2, 1) := by decide +kernel
theorem dX7_slotFor_8 : decode cX7_slotFor 8 = .ok (.iconst 0, 1) := by decide +kernel
theorem dX7_slotFor_9 : decode cX7_slotFor 9 = .ok (.istore_n 3, 1) := by decide +kernel
theorem dX7_slotFor_10 : decode cX7_slotFor 10 = .ok (.iload_n 3, 1) := by decide +kernel
theorem dX7_slotFor_11 : decode cX7_slotFor 11 = .ok (.sipush 1024, 3) := by decide +kernel
theorem dX7_slotFor_14 : decode cX7_slotFor 14 = .ok (.if_icmp .ge 58, 3) := by decide +kernel
theorem dX7_slotFor_17 : decode cX7_slotFor 17 = .ok (.aload_n 0, 1) := by decide +kernel
theorem dX7_slotFor_18 : decode cX7_slotFor 18 = .ok (.getfield 18, 3) := by decide +kernel
theorem dX7_slotFor_21 : decode cX7_slotFor 21 = .ok (.iload_n 2, 1) := by decide +kernel
theorem dX7_slotFor_22 : decode cX7_slotFor 22 = .ok (.iaload, 1) := by decide +kernel
theorem dX7_slotFor_23 : decode cX7_slotFor 23 = .ok (.bipush (-9), 2) := by decide +kernel
theorem dX7_slotFor_25 : decode cX7_slotFor 25 = .ok (.if_icmp .eq 47, 3) := by decide +kernel
theorem dX7_slotFor_28 : decode cX7_slotFor 28 = .ok (.aload_n 0, 1) := by decide +kernel
theorem dX7_slotFor_29 : decode cX7_slotFor 29 = .ok (.getfield 15, 3) := by decide +kernel
theorem dX7_slotFor_32 : decode cX7_slotFor 32 = .ok (.aload_n 0, 1) := by decide +kernel
theorem dX7_slotFor_33 : decode cX7_slotFor 33 = .ok (.getfield 18, 3) := by decide +kernel
theorem dX7_slotFor_36 : decode cX7_slotFor 36 = .ok (.iload_n 2, 1) := by decide +kernel
theorem dX7_slotFor_37 : decode cX7_slotFor 37 = .ok (.iaload, 1) := by decide +kernel
theorem dX7_slotFor_38 : decode cX7_slotFor 38 = .ok (.iaload, 1) := by decide +kernel
theorem dX7_slotFor_39 : decode cX7_slotFor 39 = .ok (.iload_n 1, 1) := by decide +kernel
theorem dX7_slotFor_40 : decode cX7_slotFor 40 = .ok (.if_icmp .ne 18, 3) := by decide +kernel
theorem dX7_slotFor_43 : decode cX7_slotFor 43 = .ok (.aload_n 0, 1) := by decide +kernel
theorem dX7_slotFor_44 : decode cX7_slotFor 44 = .ok (.aload_n 0, 1) := by decide +kernel
theorem dX7_slotFor_45 : decode cX7_slotFor 45 = .ok (.getfield 18, 3) := by decide +kernel
theorem dX7_slotFor_48 : decode cX7_slotFor 48 = .ok (.iload_n 2, 1) := by decide +kernel
theorem dX7_slotFor_49 : decode cX7_slotFor 49 = .ok (.iaload, 1) := by decide +kernel
theorem dX7_slotFor_50 : decode cX7_slotFor 50 = .ok (.invokevirtual 164, 3) := by decide +kernel
theorem dX7_slotFor_53 : decode cX7_slotFor 53 = .ok (.ifCond .eq 5, 3) := by decide +kernel
theorem dX7_slotFor_56 : decode cX7_slotFor 56 = .ok (.iload_n 2, 1) := by decide +kernel
theorem dX7_slotFor_57 : decode cX7_slotFor 57 = .ok (.ireturn, 1) := by decide +kernel
theorem dX7_slotFor_58 : decode cX7_slotFor 58 = .ok (.iload_n 2, 1) := by decide +kernel
theorem dX7_slotFor_59 : decode cX7_slotFor 59 = .ok (.iconst 1, 1) := by decide +kernel
theorem dX7_slotFor_60 : decode cX7_slotFor 60 = .ok (.iadd, 1) := by decide +kernel
theorem dX7_slotFor_61 : decode cX7_slotFor 61 = .ok (.sipush 1023, 3) := by decide +kernel
theorem dX7_slotFor_64 : decode cX7_slotFor 64 = .ok (.iand, 1) := by decide +kernel
theorem dX7_slotFor_65 : decode cX7_slotFor 65 = .ok (.istore_n 2, 1) := by decide +kernel
theorem dX7_slotFor_66 : decode cX7_slotFor 66 = .ok (.iinc 3 1, 3) := by decide +kernel
theorem dX7_slotFor_69 : decode cX7_slotFor 69 = .ok (.goto (-59), 3) := by decide +kernel
theorem dX7_slotFor_72 : decode cX7_slotFor 72 = .ok (.iload_n 2, 1) := by decide +kernel
theorem dX7_slotFor_73 : decode cX7_slotFor 73 = .ok (.ireturn, 1) := by decide +kernel
theorem dX7_isScene_0 : decode cX7_isScene 0 = .ok (.iconst 0, 1) := by decide +kernel
theorem dX7_isScene_1 : decode cX7_isScene 1 = .ok (.istore_n 2, 1) := by decide +kernel
theorem dX7_isScene_2 : decode cX7_isScene 2 = .ok (.iload_n 2, 1) := by decide +kernel
theorem dX7_isScene_3 : decode cX7_isScene 3 = .ok (.aload_n 0, 1) := by decide +kernel
theorem dX7_isScene_4 : decode cX7_isScene 4 = .ok (.getfield 30, 3) := by decide +kernel
theorem dX7_isScene_7 : decode cX7_isScene 7 = .ok (.getfield 125, 3) := by decide +kernel
theorem dX7_isScene_10 : decode cX7_isScene 10 = .ok (.if_icmp .ge 34, 3) := by decide +kernel
theorem dX7_isScene_13 : decode cX7_isScene 13 = .ok (.aload_n 0, 1) := by decide +kernel
theorem dX7_isScene_14 : decode cX7_isScene 14 = .ok (.getfield 9, 3) := by decide +kernel
theorem dX7_isScene_17 : decode cX7_isScene 17 = .ok (.iload_n 1, 1) := by decide +kernel
theorem dX7_isScene_18 : decode cX7_isScene 18 = .ok (.bipush 30, 2) := by decide +kernel
theorem dX7_isScene_20 : decode cX7_isScene 20 = .ok (.imul, 1) := by decide +kernel
theorem dX7_isScene_21 : decode cX7_isScene 21 = .ok (.iload_n 2, 1) := by decide +kernel
theorem dX7_isScene_22 : decode cX7_isScene 22 = .ok (.iadd, 1) := by decide +kernel
theorem dX7_isScene_23 : decode cX7_isScene 23 = .ok (.iaload, 1) := by decide +kernel
theorem dX7_isScene_24 : decode cX7_isScene 24 = .ok (.aload_n 0, 1) := by decide +kernel
theorem dX7_isScene_25 : decode cX7_isScene 25 = .ok (.getfield 39, 3) := by decide +kernel
theorem dX7_isScene_28 : decode cX7_isScene 28 = .ok (.getfield 65, 3) := by decide +kernel
theorem dX7_isScene_31 : decode cX7_isScene 31 = .ok (.iload_n 2, 1) := by decide +kernel
theorem dX7_isScene_32 : decode cX7_isScene 32 = .ok (.iaload, 1) := by decide +kernel
theorem dX7_isScene_33 : decode cX7_isScene 33 = .ok (.if_icmp .eq 5, 3) := by decide +kernel
theorem dX7_isScene_36 : decode cX7_isScene 36 = .ok (.iconst 0, 1) := by decide +kernel
theorem dX7_isScene_37 : decode cX7_isScene 37 = .ok (.ireturn, 1) := by decide +kernel
theorem dX7_isScene_38 : decode cX7_isScene 38 = .ok (.iinc 2 1, 3) := by decide +kernel
theorem dX7_isScene_41 : decode cX7_isScene 41 = .ok (.goto (-39), 3) := by decide +kernel
theorem dX7_isScene_44 : decode cX7_isScene 44 = .ok (.iconst 1, 1) := by decide +kernel
theorem dX7_isScene_45 : decode cX7_isScene 45 = .ok (.ireturn, 1) := by decide +kernel
theorem dX7_tellPlay_0 : decode cX7_tellPlay 0 = .ok (.aload_n 0, 1) := by decide +kernel
theorem dX7_tellPlay_1 : decode cX7_tellPlay 1 = .ok (.getfield 83, 3) := by decide +kernel
theorem dX7_tellPlay_4 : decode cX7_tellPlay 4 = .ok (.bipush (-9), 2) := by decide +kernel
theorem dX7_tellPlay_6 : decode cX7_tellPlay 6 = .ok (.if_icmp .ne 10, 3) := by decide +kernel
theorem dX7_tellPlay_9 : decode cX7_tellPlay 9 = .ok (.aload_n 0, 1) := by decide +kernel
theorem dX7_tellPlay_10 : decode cX7_tellPlay 10 = .ok (.bipush (-9), 2) := by decide +kernel
theorem dX7_tellPlay_12 : decode cX7_tellPlay 12 = .ok (.putfield 61, 3) := by decide +kernel
theorem dX7_tellPlay_15 : decode cX7_tellPlay 15 = .ok (.return_, 1) := by decide +kernel
theorem dX7_tellPlay_16 : decode cX7_tellPlay 16 = .ok (.aload_n 0, 1) := by decide +kernel
theorem dX7_tellPlay_17 : decode cX7_tellPlay 17 = .ok (.iconst 0, 1) := by decide +kernel
theorem dX7_tellPlay_18 : decode cX7_tellPlay 18 = .ok (.putfield 61, 3) := by decide +kernel
theorem dX7_tellPlay_21 : decode cX7_tellPlay 21 = .ok (.aload_n 0, 1) := by decide +kernel
theorem dX7_tellPlay_22 : decode cX7_tellPlay 22 = .ok (.getfield 83, 3) := by decide +kernel
theorem dX7_tellPlay_25 : decode cX7_tellPlay 25 = .ok (.istore_n 1, 1) := by decide +kernel
theorem dX7_tellPlay_26 : decode cX7_tellPlay 26 = .ok (.iload_n 1, 1) := by decide +kernel
theorem dX7_tellPlay_27 : decode cX7_tellPlay 27 = .ok (.ifCond .le 33, 3) := by decide +kernel
theorem dX7_tellPlay_30 : decode cX7_tellPlay 30 = .ok (.aload_n 0, 1) := by decide +kernel
theorem dX7_tellPlay_31 : decode cX7_tellPlay 31 = .ok (.getfield 61, 3) := by decide +kernel
theorem dX7_tellPlay_34 : decode cX7_tellPlay 34 = .ok (.sipush 300, 3) := by decide +kernel
theorem dX7_tellPlay_37 : decode cX7_tellPlay 37 = .ok (.if_icmp .ge 23, 3) := by decide +kernel
theorem dX7_tellPlay_40 : decode cX7_tellPlay 40 = .ok (.aload_n 0, 1) := by decide +kernel
theorem dX7_tellPlay_41 : decode cX7_tellPlay 41 = .ok (.dup, 1) := by decide +kernel
theorem dX7_tellPlay_42 : decode cX7_tellPlay 42 = .ok (.getfield 61, 3) := by decide +kernel
theorem dX7_tellPlay_45 : decode cX7_tellPlay 45 = .ok (.iconst 1, 1) := by decide +kernel
theorem dX7_tellPlay_46 : decode cX7_tellPlay 46 = .ok (.iadd, 1) := by decide +kernel
theorem dX7_tellPlay_47 : decode cX7_tellPlay 47 = .ok (.putfield 61, 3) := by decide +kernel
theorem dX7_tellPlay_50 : decode cX7_tellPlay 50 = .ok (.aload_n 0, 1) := by decide +kernel
theorem dX7_tellPlay_51 : decode cX7_tellPlay 51 = .ok (.getfield 21, 3) := by decide +kernel
theorem dX7_tellPlay_54 : decode cX7_tellPlay 54 = .ok (.iload_n 1, 1) := by decide +kernel
theorem dX7_tellPlay_55 : decode cX7_tellPlay 55 = .ok (.iaload, 1) := by decide +kernel
theorem dX7_tellPlay_56 : decode cX7_tellPlay 56 = .ok (.istore_n 1, 1) := by decide +kernel
theorem dX7_tellPlay_57 : decode cX7_tellPlay 57 = .ok (.goto (-31), 3) := by decide +kernel
theorem dX7_tellPlay_60 : decode cX7_tellPlay 60 = .ok (.aload_n 0, 1) := by decide +kernel
theorem dX7_tellPlay_61 : decode cX7_tellPlay 61 = .ok (.getfield 83, 3) := by decide +kernel
theorem dX7_tellPlay_64 : decode cX7_tellPlay 64 = .ok (.istore_n 1, 1) := by decide +kernel
theorem dX7_tellPlay_65 : decode cX7_tellPlay 65 = .ok (.aload_n 0, 1) := by decide +kernel
theorem dX7_tellPlay_66 : decode cX7_tellPlay 66 = .ok (.getfield 61, 3) := by decide +kernel
theorem dX7_tellPlay_69 : decode cX7_tellPlay 69 = .ok (.iconst 1, 1) := by decide +kernel
theorem dX7_tellPlay_70 : decode cX7_tellPlay 70 = .ok (.isub, 1) := by decide +kernel
theorem dX7_tellPlay_71 : decode cX7_tellPlay 71 = .ok (.istore_n 2, 1) := by decide +kernel
theorem dX7_tellPlay_72 : decode cX7_tellPlay 72 = .ok (.iload_n 2, 1) := by decide +kernel
theorem dX7_tellPlay_73 : decode cX7_tellPlay 73 = .ok (.ifCond .lt 32, 3) := by decide +kernel
theorem dX7_tellPlay_76 : decode cX7_tellPlay 76 = .ok (.iload_n 1, 1) := by decide +kernel
theorem dX7_tellPlay_77 : decode cX7_tellPlay 77 = .ok (.ifCond .le 28, 3) := by decide +kernel
theorem dX7_tellPlay_80 : decode cX7_tellPlay 80 = .ok (.aload_n 0, 1) := by decide +kernel
theorem dX7_tellPlay_81 : decode cX7_tellPlay 81 = .ok (.getfield 27, 3) := by decide +kernel
theorem dX7_tellPlay_84 : decode cX7_tellPlay 84 = .ok (.iload_n 2, 1) := by decide +kernel
theorem dX7_tellPlay_85 : decode cX7_tellPlay 85 = .ok (.aload_n 0, 1) := by decide +kernel
theorem dX7_tellPlay_86 : decode cX7_tellPlay 86 = .ok (.getfield 24, 3) := by decide +kernel
theorem dX7_tellPlay_89 : decode cX7_tellPlay 89 = .ok (.iload_n 1, 1) := by decide +kernel
theorem dX7_tellPlay_90 : decode cX7_tellPlay 90 = .ok (.iaload, 1) := by decide +kernel
theorem dX7_tellPlay_91 : decode cX7_tellPlay 91 = .ok (.iastore, 1) := by decide +kernel
theorem dX7_tellPlay_92 : decode cX7_tellPlay 92 = .ok (.aload_n 0, 1) := by decide +kernel
theorem dX7_tellPlay_93 : decode cX7_tellPlay 93 = .ok (.getfield 21, 3) := by decide +kernel
theorem dX7_tellPlay_96 : decode cX7_tellPlay 96 = .ok (.iload_n 1, 1) := by decide +kernel
theorem dX7_tellPlay_97 : decode cX7_tellPlay 97 = .ok (.iaload, 1) := by decide +kernel
theorem dX7_tellPlay_98 : decode cX7_tellPlay 98 = .ok (.istore_n 1, 1) := by decide +kernel
theorem dX7_tellPlay_99 : decode cX7_tellPlay 99 = .ok (.iinc 2 (-1), 3) := by decide +kernel
theorem dX7_tellPlay_102 : decode cX7_tellPlay 102 = .ok (.goto (-30), 3) := by decide +kernel
theorem dX7_tellPlay_105 : decode cX7_tellPlay 105 = .ok (.return_, 1) := by decide +kernel
theorem dX8_init_0 : decode cX8_init 0 = .ok (.aload_n 0, 1) := by decide +kernel
theorem dX8_init_1 : decode cX8_init 1 = .ok (.invokespecial 3, 3) := by decide +kernel
theorem dX8_init_4 : decode cX8_init 4 = .ok (.aload_n 0, 1) := by decide +kernel
theorem dX8_init_5 : decode cX8_init 5 = .ok (.bipush 30, 2) := by decide +kernel
theorem dX8_init_7 : decode cX8_init 7 = .ok (.newarray .boolean, 2) := by decide +kernel
theorem dX8_init_9 : decode cX8_init 9 = .ok (.putfield 9, 3) := by decide +kernel
theorem dX8_init_12 : decode cX8_init 12 = .ok (.aload_n 0, 1) := by decide +kernel
theorem dX8_init_13 : decode cX8_init 13 = .ok (.bipush 30, 2) := by decide +kernel
theorem dX8_init_15 : decode cX8_init 15 = .ok (.newarray .boolean, 2) := by decide +kernel
theorem dX8_init_17 : decode cX8_init 17 = .ok (.putfield 15, 3) := by decide +kernel
theorem dX8_init_20 : decode cX8_init 20 = .ok (.aload_n 0, 1) := by decide +kernel
theorem dX8_init_21 : decode cX8_init 21 = .ok (.aload_n 1, 1) := by decide +kernel
theorem dX8_init_22 : decode cX8_init 22 = .ok (.putfield 18, 3) := by decide +kernel
theorem dX8_init_25 : decode cX8_init 25 = .ok (.aload_n 0, 1) := by decide +kernel
theorem dX8_init_26 : decode cX8_init 26 = .ok (.aload_n 2, 1) := by decide +kernel
theorem dX8_init_27 : decode cX8_init 27 = .ok (.putfield 22, 3) := by decide +kernel
theorem dX8_init_30 : decode cX8_init 30 = .ok (.aload_n 0, 1) := by decide +kernel
theorem dX8_init_31 : decode cX8_init 31 = .ok (.aload_n 3, 1) := by decide +kernel
theorem dX8_init_32 : decode cX8_init 32 = .ok (.putfield 26, 3) := by decide +kernel
theorem dX8_init_35 : decode cX8_init 35 = .ok (.return_, 1) := by decide +kernel
theorem dX8_look_0 : decode cX8_look 0 = .ok (.aload_n 0, 1) := by decide +kernel
theorem dX8_look_1 : decode cX8_look 1 = .ok (.iload_n 1, 1) := by decide +kernel
theorem dX8_look_2 : decode cX8_look 2 = .ok (.iconst 0, 1) := by decide +kernel
theorem dX8_look_3 : decode cX8_look 3 = .ok (.invokevirtual 30, 3) := by decide +kernel
theorem dX8_look_6 : decode cX8_look 6 = .ok (.istore_n 2, 1) := by decide +kernel
theorem dX8_look_7 : decode cX8_look 7 = .ok (.aload_n 0, 1) := by decide +kernel
theorem dX8_look_8 : decode cX8_look 8 = .ok (.iload_n 1, 1) := by decide +kernel
theorem dX8_look_9 : decode cX8_look 9 = .ok (.iconst 1, 1) := by decide +kernel
theorem dX8_look_10 : decode cX8_look 10 = .ok (.invokevirtual 30, 3) := by decide +kernel
theorem dX8_look_13 : decode cX8_look 13 = .ok (.istore_n 3, 1) := by decide +kernel
theorem dX8_look_14 : decode cX8_look 14 = .ok (.aload_n 0, 1) := by decide +kernel
theorem dX8_look_15 : decode cX8_look 15 = .ok (.aload_n 0, 1) := by decide +kernel
theorem dX8_look_16 : decode cX8_look 16 = .ok (.getfield 18, 3) := by decide +kernel
theorem dX8_look_19 : decode cX8_look 19 = .ok (.iload_n 2, 1) := by decide +kernel
theorem dX8_look_20 : decode cX8_look 20 = .ok (.invokevirtual 34, 3) := by decide +kernel
theorem dX8_look_23 : decode cX8_look 23 = .ok (.ifCond .ne 19, 3) := by decide +kernel
theorem dX8_look_26 : decode cX8_look 26 = .ok (.aload_n 0, 1) := by decide +kernel
theorem dX8_look_27 : decode cX8_look 27 = .ok (.getfield 26, 3) := by decide +kernel
theorem dX8_look_30 : decode cX8_look 30 = .ok (.iload_n 2, 1) := by decide +kernel
theorem dX8_look_31 : decode cX8_look 31 = .ok (.iconst 2, 1) := by decide +kernel
theorem dX8_look_32 : decode cX8_look 32 = .ok (.invokevirtual 40, 3) := by decide +kernel
theorem dX8_look_35 : decode cX8_look 35 = .ok (.ifCond .eq 7, 3) := by decide +kernel
theorem dX8_look_38 : decode cX8_look 38 = .ok (.iconst 1, 1) := by decide +kernel
theorem dX8_look_39 : decode cX8_look 39 = .ok (.goto 4, 3) := by decide +kernel
theorem dX8_look_42 : decode cX8_look 42 = .ok (.iconst 0, 1) := by decide +kernel
theorem dX8_look_43 : decode cX8_look 43 = .ok (.putfield 46, 3) := by decide +kernel
theorem dX8_look_46 : decode cX8_look 46 = .ok (.iconst 0, 1) := by decide +kernel
theorem dX8_look_47 : decode cX8_look 47 = .ok (.istore 4, 2) := by decide +kernel
theorem dX8_look_49 : decode cX8_look 49 = .ok (.iload 4, 2) := by decide +kernel
theorem dX8_look_51 : decode cX8_look 51 = .ok (.aload_n 0, 1) := by decide +kernel
theorem dX8_look_52 : decode cX8_look 52 = .ok (.getfield 18, 3) := by decide +kernel
theorem dX8_look_55 : decode cX8_look 55 = .ok (.getfield 50, 3) := by decide +kernel
theorem dX8_look_58 : decode cX8_look 58 = .ok (.if_icmp .ge 77, 3) := by decide +kernel
theorem dX8_look_61 : decode cX8_look 61 = .ok (.aload_n 0, 1) := by decide +kernel
theorem dX8_look_62 : decode cX8_look 62 = .ok (.getfield 9, 3) := by decide +kernel
theorem dX8_look_65 : decode cX8_look 65 = .ok (.iload 4, 2) := by decide +kernel
theorem dX8_look_67 : decode cX8_look 67 = .ok (.iload 4, 2) := by decide +kernel
theorem dX8_look_69 : decode cX8_look 69 = .ok (.iload_n 1, 1) := by decide +kernel
theorem dX8_look_70 : decode cX8_look 70 = .ok (.if_icmp .eq 14, 3) := by decide +kernel
theorem dX8_look_73 : decode cX8_look 73 = .ok (.aload_n 0, 1) := by decide +kernel
theorem dX8_look_74 : decode cX8_look 74 = .ok (.iload 4, 2) := by decide +kernel
theorem dX8_look_76 : decode cX8_look 76 = .ok (.iload_n 2, 1) := by decide +kernel
theorem dX8_look_77 : decode cX8_look 77 = .ok (.iconst 0, 1) := by decide +kernel
theorem dX8_look_78 : decode cX8_look 78 = .ok (.invokevirtual 54, 3) := by decide +kernel
theorem dX8_look_81 : decode cX8_look 81 = .ok (.ifCond .eq 7, 3) := by decide +kernel
theorem dX8_look_84 : decode cX8_look 84 = .ok (.iconst 1, 1) := by decide +kernel
theorem dX8_look_85 : decode cX8_look 85 = .ok (.goto 4, 3) := by decide +kernel
theorem dX8_look_88 : decode cX8_look 88 = .ok (.iconst 0, 1) := by decide +kernel
theorem dX8_look_89 : decode cX8_look 89 = .ok (.bastore, 1) := by decide +kernel
theorem dX8_look_90 : decode cX8_look 90 = .ok (.aload_n 0, 1) := by decide +kernel
theorem dX8_look_91 : decode cX8_look 91 = .ok (.aload_n 0, 1) := by decide +kernel
theorem dX8_look_92 : decode cX8_look 92 = .ok (.getfield 46, 3) := by decide +kernel
theorem dX8_look_95 : decode cX8_look 95 = .ok (.ifCond .ne 26, 3) := by decide +kernel
theorem dX8_look_98 : decode cX8_look 98 = .ok (.aload_n 0, 1) := by decide +kernel
theorem dX8_look_99 : decode cX8_look 99 = .ok (.getfield 9, 3) := by decide +kernel
theorem dX8_look_102 : decode cX8_look 102 = .ok (.iload 4, 2) := by decide +kernel
theorem dX8_look_104 : decode cX8_look 104 = .ok (.baload, 1) := by decide +kernel
theorem dX8_look_105 : decode cX8_look 105 = .ok (.ifCond .eq 20, 3) := by decide +kernel
theorem dX8_look_108 : decode cX8_look 108 = .ok (.aload_n 0, 1) := by decide +kernel
theorem dX8_look_109 : decode cX8_look 109 = .ok (.getfield 26, 3) := by decide +kernel
theorem dX8_look_112 : decode cX8_look 112 = .ok (.iload 4, 2) := by decide +kernel
theorem dX8_look_114 : decode cX8_look 114 = .ok (.iconst 2, 1) := by decide +kernel
theorem dX8_look_115 : decode cX8_look 115 = .ok (.invokevirtual 40, 3) := by decide +kernel
theorem dX8_look_118 : decode cX8_look 118 = .ok (.ifCond .eq 7, 3) := by decide +kernel
theorem dX8_look_121 : decode cX8_look 121 = .ok (.iconst 1, 1) := by decide +kernel
theorem dX8_look_122 : decode cX8_look 122 = .ok (.goto 4, 3) := by decide +kernel
theorem dX8_look_125 : decode cX8_look 125 = .ok (.iconst 0, 1) := by decide +kernel
theorem dX8_look_126 : decode cX8_look 126 = .ok (.putfield 46, 3) := by decide +kernel
theorem dX8_look_129 : decode cX8_look 129 = .ok (.iinc 4 1, 3) := by decide +kernel
theorem dX8_look_132 : decode cX8_look 132 = .ok (.goto (-83), 3) := by decide +kernel
theorem dX8_look_135 : decode cX8_look 135 = .ok (.iconst 0, 1) := by decide +kernel
theorem dX8_look_136 : decode cX8_look 136 = .ok (.istore 4, 2) := by decide +kernel
theorem dX8_look_138 : decode cX8_look 138 = .ok (.iload 4, 2) := by decide +kernel
theorem dX8_look_140 : decode cX8_look 140 = .ok (.aload_n 0, 1) := by decide +kernel
theorem dX8_look_141 : decode cX8_look 141 = .ok (.getfield 18, 3) := by decide +kernel
theorem dX8_look_144 : decode cX8_look 144 = .ok (.getfield 50, 3) := by decide +kernel
theorem dX8_look_147 : decode cX8_look 147 = .ok (.if_icmp .ge 117, 3) := by decide +kernel
theorem dX8_look_150 : decode cX8_look 150 = .ok (.aload_n 0, 1) := by decide +kernel
theorem dX8_look_151 : decode cX8_look 151 = .ok (.getfield 26, 3) := by decide +kernel
theorem dX8_look_154 : decode cX8_look 154 = .ok (.iload 4, 2) := by decide +kernel
theorem dX8_look_156 : decode cX8_look 156 = .ok (.iconst 2, 1) := by decide +kernel
theorem dX8_look_157 : decode cX8_look 157 = .ok (.iload_n 1, 1) := by decide +kernel
theorem dX8_look_158 : decode cX8_look 158 = .ok (.invokevirtual 58, 3) := by decide +kernel
theorem dX8_look_161 : decode cX8_look 161 = .ok (.ifCond .ne 17, 3) := by decide +kernel
theorem dX8_look_164 : decode cX8_look 164 = .ok (.aload_n 0, 1) := by decide +kernel
theorem dX8_look_165 : decode cX8_look 165 = .ok (.getfield 26, 3) := by decide +kernel
theorem dX8_look_168 : decode cX8_look 168 = .ok (.iload 4, 2) := by decide +kernel
theorem dX8_look_170 : decode cX8_look 170 = .ok (.iconst 3, 1) := by decide +kernel
theorem dX8_look_171 : decode cX8_look 171 = .ok (.iload_n 1, 1) := by decide +kernel
theorem dX8_look_172 : decode cX8_look 172 = .ok (.invokevirtual 58, 3) := by decide +kernel
theorem dX8_look_175 : decode cX8_look 175 = .ok (.ifCond .eq 7, 3) := by decide +kernel
theorem dX8_look_178 : decode cX8_look 178 = .ok (.iconst 1, 1) := by decide +kernel
theorem dX8_look_179 : decode cX8_look 179 = .ok (.goto 4, 3) := by decide +kernel
theorem dX8_look_182 : decode cX8_look 182 = .ok (.iconst 0, 1) := by decide +kernel
theorem dX8_look_183 : decode cX8_look 183 = .ok (.istore 5, 2) := by decide +kernel
theorem dX8_look_185 : decode cX8_look 185 = .ok (.aload_n 0, 1) := by decide +kernel
theorem dX8_look_186 : decode cX8_look 186 = .ok (.getfield 9, 3) := by decide +kernel
theorem dX8_look_189 : decode cX8_look 189 = .ok (.iload 4, 2) := by decide +kernel
theorem dX8_look_191 : decode cX8_look 191 = .ok (.iload 5, 2) := by decide +kernel
theorem dX8_look_193 : decode cX8_look 193 = .ok (.ifCond .ne 20, 3) := by decide +kernel
theorem dX8_look_196 : decode cX8_look 196 = .ok (.aload_n 0, 1) := by decide +kernel
theorem dX8_look_197 : decode cX8_look 197 = .ok (.getfield 46, 3) := by decide +kernel
theorem dX8_look_200 : decode cX8_look 200 = .ok (.ifCond .eq 17, 3) := by decide +kernel
theorem dX8_look_203 : decode cX8_look 203 = .ok (.aload_n 0, 1) := by decide +kernel
theorem dX8_look_204 : decode cX8_look 204 = .ok (.getfield 9, 3) := by decide +kernel
theorem dX8_look_207 : decode cX8_look 207 = .ok (.iload 4, 2) := by decide +kernel
theorem dX8_look_209 : decode cX8_look 209 = .ok (.baload, 1) := by decide +kernel
theorem dX8_look_210 : decode cX8_look 210 = .ok (.ifCond .eq 7, 3) := by decide +kernel
theorem dX8_look_213 : decode cX8_look 213 = .ok (.iconst 1, 1) := by decide +kernel
theorem dX8_look_214 : decode cX8_look 214 = .ok (.goto 4, 3) := by decide +kernel
theorem dX8_look_217 : decode cX8_look 217 = .ok (.iconst 0, 1) := by decide +kernel
theorem dX8_look_218 : decode cX8_look 218 = .ok (.bastore, 1) := by decide +kernel
theorem dX8_look_219 : decode cX8_look 219 = .ok (.aload_n 0, 1) := by decide +kernel
theorem dX8_look_220 : decode cX8_look 220 = .ok (.getfield 15, 3) := by decide +kernel
theorem dX8_look_223 : decode cX8_look 223 = .ok (.iload 4, 2) := by decide +kernel
theorem dX8_look_225 : decode cX8_look 225 = .ok (.aload_n 0, 1) := by decide +kernel
theorem dX8_look_226 : decode cX8_look 226 = .ok (.getfield 9, 3) := by decide +kernel
theorem dX8_look_229 : decode cX8_look 229 = .ok (.iload 4, 2) := by decide +kernel
theorem dX8_look_231 : decode cX8_look 231 = .ok (.baload, 1) := by decide +kernel
theorem dX8_look_232 : decode cX8_look 232 = .ok (.ifCond .eq 24, 3) := by decide +kernel
theorem dX8_look_235 : decode cX8_look 235 = .ok (.iload 4, 2) := by decide +kernel
theorem dX8_look_237 : decode cX8_look 237 = .ok (.iload_n 1, 1) := by decide +kernel
theorem dX8_look_238 : decode cX8_look 238 = .ok (.if_icmp .eq 14, 3) := by decide +kernel
theorem dX8_look_241 : decode cX8_look 241 = .ok (.aload_n 0, 1) := by decide +kernel
theorem dX8_look_242 : decode cX8_look 242 = .ok (.iload 4, 2) := by decide +kernel
theorem dX8_look_244 : decode cX8_look 244 = .ok (.iload_n 3, 1) := by decide +kernel
theorem dX8_look_245 : decode cX8_look 245 = .ok (.iconst 1, 1) := by decide +kernel
theorem dX8_look_246 : decode cX8_look 246 = .ok (.invokevirtual 54, 3) := by decide +kernel
theorem dX8_look_249 : decode cX8_look 249 = .ok (.ifCond .eq 7, 3) := by decide +kernel
theorem dX8_look_252 : decode cX8_look 252 = .ok (.iconst 1, 1) := by decide +kernel
theorem dX8_look_253 : decode cX8_look 253 = .ok (.goto 4, 3) := by decide +kernel
theorem dX8_look_256 : decode cX8_look 256 = .ok (.iconst 0, 1) := by decide +kernel
theorem dX8_look_257 : decode cX8_look 257 = .ok (.bastore, 1) := by decide +kernel
theorem dX8_look_258 : decode cX8_look 258 = .ok (.iinc 4 1, 3) := by decide +kernel
theorem dX8_look_261 : decode cX8_look 261 = .ok (.goto (-123), 3) := by decide +kernel
theorem dX8_look_264 : decode cX8_look 264 = .ok (.return_, 1) := by decide +kernel
theorem dX8_isCover_0 : decode cX8_isCover 0 = .ok (.aload_n 0, 1) := by decide +kernel
theorem dX8_isCover_1 : decode cX8_isCover 1 = .ok (.getfield 18, 3) := by decide +kernel
theorem dX8_isCover_4 : decode cX8_isCover 4 = .ok (.iload_n 1, 1) := by decide +kernel
theorem dX8_isCover_5 : decode cX8_isCover 5 = .ok (.invokevirtual 34, 3) := by decide +kernel
theorem dX8_isCover_8 : decode cX8_isCover 8 = .ok (.iconst 3, 1) := by decide +kernel
theorem dX8_isCover_9 : decode cX8_isCover 9 = .ok (.if_icmp .ne 35, 3) := by decide +kernel
theorem dX8_isCover_12 : decode cX8_isCover 12 = .ok (.aload_n 0, 1) := by decide +kernel
theorem dX8_isCover_13 : decode cX8_isCover 13 = .ok (.getfield 26, 3) := by decide +kernel
theorem dX8_isCover_16 : decode cX8_isCover 16 = .ok (.iload_n 1, 1) := by decide +kernel
theorem dX8_isCover_17 : decode cX8_isCover 17 = .ok (.iconst 0, 1) := by decide +kernel
theorem dX8_isCover_18 : decode cX8_isCover 18 = .ok (.invokevirtual 40, 3) := by decide +kernel
theorem dX8_isCover_21 : decode cX8_isCover 21 = .ok (.ifCond .ne 23, 3) := by decide +kernel
theorem dX8_isCover_24 : decode cX8_isCover 24 = .ok (.iload_n 2, 1) := by decide +kernel
theorem dX8_isCover_25 : decode cX8_isCover 25 = .ok (.ifCond .ne 15, 3) := by decide +kernel
theorem dX8_isCover_28 : decode cX8_isCover 28 = .ok (.aload_n 0, 1) := by decide +kernel
theorem dX8_isCover_29 : decode cX8_isCover 29 = .ok (.getfield 26, 3) := by decide +kernel
theorem dX8_isCover_32 : decode cX8_isCover 32 = .ok (.iload_n 1, 1) := by decide +kernel
theorem dX8_isCover_33 : decode cX8_isCover 33 = .ok (.iconst 5, 1) := by decide +kernel
theorem dX8_isCover_34 : decode cX8_isCover 34 = .ok (.invokevirtual 40, 3) := by decide +kernel
theorem dX8_isCover_37 : decode cX8_isCover 37 = .ok (.ifCond .ne 7, 3) := by decide +kernel
theorem dX8_isCover_40 : decode cX8_isCover 40 = .ok (.iconst 1, 1) := by decide +kernel
theorem dX8_isCover_41 : decode cX8_isCover 41 = .ok (.goto 4, 3) := by decide +kernel
theorem dX8_isCover_44 : decode cX8_isCover 44 = .ok (.iconst 0, 1) := by decide +kernel
theorem dX8_isCover_45 : decode cX8_isCover 45 = .ok (.ireturn, 1) := by decide +kernel
theorem dX8_shellOf_0 : decode cX8_shellOf 0 = .ok (.aload_n 0, 1) := by decide +kernel
theorem dX8_shellOf_1 : decode cX8_shellOf 1 = .ok (.getfield 26, 3) := by decide +kernel
theorem dX8_shellOf_4 : decode cX8_shellOf 4 = .ok (.iload_n 1, 1) := by decide +kernel
theorem dX8_shellOf_5 : decode cX8_shellOf 5 = .ok (.invokevirtual 62, 3) := by decide +kernel
theorem dX8_shellOf_8 : decode cX8_shellOf 8 = .ok (.istore_n 3, 1) := by decide +kernel
theorem dX8_shellOf_9 : decode cX8_shellOf 9 = .ok (.iconst 0, 1) := by decide +kernel
theorem dX8_shellOf_10 : decode cX8_shellOf 10 = .ok (.istore 4, 2) := by decide +kernel
theorem dX8_shellOf_12 : decode cX8_shellOf 12 = .ok (.iload 4, 2) := by decide +kernel
theorem dX8_shellOf_14 : decode cX8_shellOf 14 = .ok (.bipush 30, 2) := by decide +kernel
theorem dX8_shellOf_16 : decode cX8_shellOf 16 = .ok (.if_icmp .ge 46, 3) := by decide +kernel
theorem dX8_shellOf_19 : decode cX8_shellOf 19 = .ok (.iload_n 3, 1) := by decide +kernel
theorem dX8_shellOf_20 : decode cX8_shellOf 20 = .ok (.bipush (-9), 2) := by decide +kernel
theorem dX8_shellOf_22 : decode cX8_shellOf 22 = .ok (.if_icmp .eq 40, 3) := by decide +kernel
theorem dX8_shellOf_25 : decode cX8_shellOf 25 = .ok (.aload_n 0, 1) := by decide +kernel
theorem dX8_shellOf_26 : decode cX8_shellOf 26 = .ok (.getfield 18, 3) := by decide +kernel
theorem dX8_shellOf_29 : decode cX8_shellOf 29 = .ok (.iload_n 3, 1) := by decide +kernel
theorem dX8_shellOf_30 : decode cX8_shellOf 30 = .ok (.invokevirtual 34, 3) := by decide +kernel
theorem dX8_shellOf_33 : decode cX8_shellOf 33 = .ok (.ifCond .eq 12, 3) := by decide +kernel
theorem dX8_shellOf_36 : decode cX8_shellOf 36 = .ok (.aload_n 0, 1) := by decide +kernel
theorem dX8_shellOf_37 : decode cX8_shellOf 37 = .ok (.iload_n 3, 1) := by decide +kernel
theorem dX8_shellOf_38 : decode cX8_shellOf 38 = .ok (.iload_n 2, 1) := by decide +kernel
theorem dX8_shellOf_39 : decode cX8_shellOf 39 = .ok (.invokevirtual 65, 3) := by decide +kernel
theorem dX8_shellOf_42 : decode cX8_shellOf 42 = .ok (.ifCond .eq 5, 3) := by decide +kernel
theorem dX8_shellOf_45 : decode cX8_shellOf 45 = .ok (.iload_n 3, 1) := by decide +kernel
theorem dX8_shellOf_46 : decode cX8_shellOf 46 = .ok (.ireturn, 1) := by decide +kernel
theorem dX8_shellOf_47 : decode cX8_shellOf 47 = .ok (.aload_n 0, 1) := by decide +kernel
theorem dX8_shellOf_48 : decode cX8_shellOf 48 = .ok (.getfield 26, 3) := by decide +kernel
theorem dX8_shellOf_51 : decode cX8_shellOf 51 = .ok (.iload_n 3, 1) := by decide +kernel
theorem dX8_shellOf_52 : decode cX8_shellOf 52 = .ok (.invokevirtual 62, 3) := by decide +kernel
theorem dX8_shellOf_55 : decode cX8_shellOf 55 = .ok (.istore_n 3, 1) := by decide +kernel
theorem dX8_shellOf_56 : decode cX8_shellOf 56 = .ok (.iinc 4 1, 3) := by decide +kernel
theorem dX8_shellOf_59 : decode cX8_shellOf 59 = .ok (.goto (-47), 3) := by decide +kernel
theorem dX8_shellOf_62 : decode cX8_shellOf 62 = .ok (.bipush (-9), 2) := by decide +kernel
theorem dX8_shellOf_64 : decode cX8_shellOf 64 = .ok (.ireturn, 1) := by decide +kernel
theorem dX8_isInView_0 : decode cX8_isInView 0 = .ok (.iload_n 1, 1) := by decide +kernel
theorem dX8_isInView_1 : decode cX8_isInView 1 = .ok (.iload_n 2, 1) := by decide +kernel
theorem dX8_isInView_2 : decode cX8_isInView 2 = .ok (.if_icmp .ne 21, 3) := by decide +kernel
theorem dX8_isInView_5 : decode cX8_isInView 5 = .ok (.aload_n 0, 1) := by decide +kernel
theorem dX8_isInView_6 : decode cX8_isInView 6 = .ok (.getfield 18, 3) := by decide +kernel
theorem dX8_isInView_9 : decode cX8_isInView 9 = .ok (.iload_n 2, 1) := by decide +kernel
theorem dX8_isInView_10 : decode cX8_isInView 10 = .ok (.invokevirtual 34, 3) := by decide +kernel
theorem dX8_isInView_13 : decode cX8_isInView 13 = .ok (.iconst 3, 1) := by decide +kernel
theorem dX8_isInView_14 : decode cX8_isInView 14 = .ok (.if_icmp .ne 7, 3) := by decide +kernel
theorem dX8_isInView_17 : decode cX8_isInView 17 = .ok (.iconst 1, 1) := by decide +kernel
theorem dX8_isInView_18 : decode cX8_isInView 18 = .ok (.goto 4, 3) := by decide +kernel
theorem dX8_isInView_21 : decode cX8_isInView 21 = .ok (.iconst 0, 1) := by decide +kernel
theorem dX8_isInView_22 : decode cX8_isInView 22 = .ok (.ireturn, 1) := by decide +kernel
theorem dX8_isInView_23 : decode cX8_isInView 23 = .ok (.aload_n 0, 1) := by decide +kernel
theorem dX8_isInView_24 : decode cX8_isInView 24 = .ok (.getfield 18, 3) := by decide +kernel
theorem dX8_isInView_27 : decode cX8_isInView 27 = .ok (.iload_n 1, 1) := by decide +kernel
theorem dX8_isInView_28 : decode cX8_isInView 28 = .ok (.invokevirtual 34, 3) := by decide +kernel
theorem dX8_isInView_31 : decode cX8_isInView 31 = .ok (.iconst 2, 1) := by decide +kernel
theorem dX8_isInView_32 : decode cX8_isInView 32 = .ok (.if_icmp .ne 13, 3) := by decide +kernel
theorem dX8_isInView_35 : decode cX8_isInView 35 = .ok (.aload_n 0, 1) := by decide +kernel
theorem dX8_isInView_36 : decode cX8_isInView 36 = .ok (.getfield 22, 3) := by decide +kernel
theorem dX8_isInView_39 : decode cX8_isInView 39 = .ok (.iload_n 2, 1) := by decide +kernel
theorem dX8_isInView_40 : decode cX8_isInView 40 = .ok (.iload_n 1, 1) := by decide +kernel
theorem dX8_isInView_41 : decode cX8_isInView 41 = .ok (.invokevirtual 69, 3) := by decide +kernel
theorem dX8_isInView_44 : decode cX8_isInView 44 = .ok (.ireturn, 1) := by decide +kernel
theorem dX8_isInView_45 : decode cX8_isInView 45 = .ok (.aload_n 0, 1) := by decide +kernel
theorem dX8_isInView_46 : decode cX8_isInView 46 = .ok (.getfield 26, 3) := by decide +kernel
theorem dX8_isInView_49 : decode cX8_isInView 49 = .ok (.iload_n 1, 1) := by decide +kernel
theorem dX8_isInView_50 : decode cX8_isInView 50 = .ok (.invokevirtual 62, 3) := by decide +kernel
theorem dX8_isInView_53 : decode cX8_isInView 53 = .ok (.istore 4, 2) := by decide +kernel
theorem dX8_isInView_55 : decode cX8_isInView 55 = .ok (.iconst 0, 1) := by decide +kernel
theorem dX8_isInView_56 : decode cX8_isInView 56 = .ok (.istore 5, 2) := by decide +kernel
theorem dX8_isInView_58 : decode cX8_isInView 58 = .ok (.iload 5, 2) := by decide +kernel
theorem dX8_isInView_60 : decode cX8_isInView 60 = .ok (.bipush 30, 2) := by decide +kernel
theorem dX8_isInView_62 : decode cX8_isInView 62 = .ok (.if_icmp .ge 47, 3) := by decide +kernel
theorem dX8_isInView_65 : decode cX8_isInView 65 = .ok (.iload 4, 2) := by decide +kernel
theorem dX8_isInView_67 : decode cX8_isInView 67 = .ok (.bipush (-9), 2) := by decide +kernel
theorem dX8_isInView_69 : decode cX8_isInView 69 = .ok (.if_icmp .eq 40, 3) := by decide +kernel
theorem dX8_isInView_72 : decode cX8_isInView 72 = .ok (.iload 4, 2) := by decide +kernel
theorem dX8_isInView_74 : decode cX8_isInView 74 = .ok (.iload_n 2, 1) := by decide +kernel
theorem dX8_isInView_75 : decode cX8_isInView 75 = .ok (.if_icmp .ne 5, 3) := by decide +kernel
theorem dX8_isInView_78 : decode cX8_isInView 78 = .ok (.iconst 1, 1) := by decide +kernel
theorem dX8_isInView_79 : decode cX8_isInView 79 = .ok (.ireturn, 1) := by decide +kernel
theorem dX8_isInView_80 : decode cX8_isInView 80 = .ok (.aload_n 0, 1) := by decide +kernel
theorem dX8_isInView_81 : decode cX8_isInView 81 = .ok (.iload 4, 2) := by decide +kernel
theorem dX8_isInView_83 : decode cX8_isInView 83 = .ok (.iload_n 3, 1) := by decide +kernel
theorem dX8_isInView_84 : decode cX8_isInView 84 = .ok (.invokevirtual 65, 3) := by decide +kernel
theorem dX8_isInView_87 : decode cX8_isInView 87 = .ok (.ifCond .eq 5, 3) := by decide +kernel
theorem dX8_isInView_90 : decode cX8_isInView 90 = .ok (.iconst 0, 1) := by decide +kernel
theorem dX8_isInView_91 : decode cX8_isInView 91 = .ok (.ireturn, 1) := by decide +kernel
theorem dX8_isInView_92 : decode cX8_isInView 92 = .ok (.aload_n 0, 1) := by decide +kernel
theorem dX8_isInView_93 : decode cX8_isInView 93 = .ok (.getfield 26, 3) := by decide +kernel
theorem dX8_isInView_96 : decode cX8_isInView 96 = .ok (.iload 4, 2) := by decide +kernel
theorem dX8_isInView_98 : decode cX8_isInView 98 = .ok (.invokevirtual 62, 3) := by decide +kernel
theorem dX8_isInView_101 : decode cX8_isInView 101 = .ok (.istore 4, 2) := by decide +kernel
theorem dX8_isInView_103 : decode cX8_isInView 103 = .ok (.iinc 5 1, 3) := by decide +kernel
theorem dX8_isInView_106 : decode cX8_isInView 106 = .ok (.goto (-48), 3) := by decide +kernel
theorem dX8_isInView_109 : decode cX8_isInView 109 = .ok (.iconst 0, 1) := by decide +kernel
theorem dX8_isInView_110 : decode cX8_isInView 110 = .ok (.ireturn, 1) := by decide +kernel
theorem dX9_init_0 : decode cX9_init 0 = .ok (.aload_n 0, 1) := by decide +kernel
theorem dX9_init_1 : decode cX9_init 1 = .ok (.invokespecial 3, 3) := by decide +kernel
theorem dX9_init_4 : decode cX9_init 4 = .ok (.aload_n 0, 1) := by decide +kernel
theorem dX9_init_5 : decode cX9_init 5 = .ok (.bipush 100, 2) := by decide +kernel
theorem dX9_init_7 : decode cX9_init 7 = .ok (.newarray .int, 2) := by decide +kernel
theorem dX9_init_9 : decode cX9_init 9 = .ok (.putfield 9, 3) := by decide +kernel
theorem dX9_init_12 : decode cX9_init 12 = .ok (.aload_n 0, 1) := by decide +kernel
theorem dX9_init_13 : decode cX9_init 13 = .ok (.bipush 100, 2) := by decide +kernel
theorem dX9_init_15 : decode cX9_init 15 = .ok (.newarray .int, 2) := by decide +kernel
theorem dX9_init_17 : decode cX9_init 17 = .ok (.putfield 15, 3) := by decide +kernel
theorem dX9_init_20 : decode cX9_init 20 = .ok (.aload_n 0, 1) := by decide +kernel
theorem dX9_init_21 : decode cX9_init 21 = .ok (.bipush 100, 2) := by decide +kernel
theorem dX9_init_23 : decode cX9_init 23 = .ok (.newarray .int, 2) := by decide +kernel
theorem dX9_init_25 : decode cX9_init 25 = .ok (.putfield 18, 3) := by decide +kernel
theorem dX9_init_28 : decode cX9_init 28 = .ok (.aload_n 0, 1) := by decide +kernel
theorem dX9_init_29 : decode cX9_init 29 = .ok (.aload_n 1, 1) := by decide +kernel
theorem dX9_init_30 : decode cX9_init 30 = .ok (.putfield 21, 3) := by decide +kernel
theorem dX9_init_33 : decode cX9_init 33 = .ok (.aload_n 0, 1) := by decide +kernel
theorem dX9_init_34 : decode cX9_init 34 = .ok (.aload_n 2, 1) := by decide +kernel
theorem dX9_init_35 : decode cX9_init 35 = .ok (.putfield 25, 3) := by decide +kernel
theorem dX9_init_38 : decode cX9_init 38 = .ok (.aload_n 0, 1) := by decide +kernel
theorem dX9_init_39 : decode cX9_init 39 = .ok (.new 29, 3) := by decide +kernel
theorem dX9_init_42 : decode cX9_init 42 = .ok (.dup, 1) := by decide +kernel
theorem dX9_init_43 : decode cX9_init 43 = .ok (.aload_n 1, 1) := by decide +kernel
theorem dX9_init_44 : decode cX9_init 44 = .ok (.invokespecial 31, 3) := by decide +kernel
theorem dX9_init_47 : decode cX9_init 47 = .ok (.putfield 34, 3) := by decide +kernel
theorem dX9_init_50 : decode cX9_init 50 = .ok (.aload_n 0, 1) := by decide +kernel
theorem dX9_init_51 : decode cX9_init 51 = .ok (.new 38, 3) := by decide +kernel
theorem dX9_init_54 : decode cX9_init 54 = .ok (.dup, 1) := by decide +kernel
theorem dX9_init_55 : decode cX9_init 55 = .ok (.aload_n 1, 1) := by decide +kernel
theorem dX9_init_56 : decode cX9_init 56 = .ok (.aload_n 3, 1) := by decide +kernel
theorem dX9_init_57 : decode cX9_init 57 = .ok (.aload_n 0, 1) := by decide +kernel
theorem dX9_init_58 : decode cX9_init 58 = .ok (.getfield 34, 3) := by decide +kernel
theorem dX9_init_61 : decode cX9_init 61 = .ok (.invokespecial 40, 3) := by decide +kernel
theorem dX9_init_64 : decode cX9_init 64 = .ok (.putfield 43, 3) := by decide +kernel
theorem dX9_init_67 : decode cX9_init 67 = .ok (.aload_n 0, 1) := by decide +kernel
theorem dX9_init_68 : decode cX9_init 68 = .ok (.new 47, 3) := by decide +kernel
theorem dX9_init_71 : decode cX9_init 71 = .ok (.dup, 1) := by decide +kernel
theorem dX9_init_72 : decode cX9_init 72 = .ok (.aload_n 1, 1) := by decide +kernel
theorem dX9_init_73 : decode cX9_init 73 = .ok (.aload_n 2, 1) := by decide +kernel
theorem dX9_init_74 : decode cX9_init 74 = .ok (.aload_n 3, 1) := by decide +kernel
theorem dX9_init_75 : decode cX9_init 75 = .ok (.aload 4, 2) := by decide +kernel
theorem dX9_init_77 : decode cX9_init 77 = .ok (.aload_n 0, 1) := by decide +kernel
theorem dX9_init_78 : decode cX9_init 78 = .ok (.getfield 43, 3) := by decide +kernel
theorem dX9_init_81 : decode cX9_init 81 = .ok (.invokespecial 49, 3) := by decide +kernel
theorem dX9_init_84 : decode cX9_init 84 = .ok (.putfield 52, 3) := by decide +kernel
theorem dX9_init_87 : decode cX9_init 87 = .ok (.aload_n 0, 1) := by decide +kernel
theorem dX9_init_88 : decode cX9_init 88 = .ok (.bipush (-9), 2) := by decide +kernel
theorem dX9_init_90 : decode cX9_init 90 = .ok (.putfield 56, 3) := by decide +kernel
theorem dX9_init_93 : decode cX9_init 93 = .ok (.return_, 1) := by decide +kernel
theorem dX9_start_0 : decode cX9_start 0 = .ok (.iconst 0, 1) := by decide +kernel
theorem dX9_start_1 : decode cX9_start 1 = .ok (.istore_n 2, 1) := by decide +kernel
theorem dX9_start_2 : decode cX9_start 2 = .ok (.iload_n 2, 1) := by decide +kernel
theorem dX9_start_3 : decode cX9_start 3 = .ok (.aload_n 0, 1) := by decide +kernel
theorem dX9_start_4 : decode cX9_start 4 = .ok (.getfield 21, 3) := by decide +kernel
theorem dX9_start_7 : decode cX9_start 7 = .ok (.getfield 60, 3) := by decide +kernel
theorem dX9_start_10 : decode cX9_start 10 = .ok (.if_icmp .ge 23, 3) := by decide +kernel
theorem dX9_start_13 : decode cX9_start 13 = .ok (.aload_n 0, 1) := by decide +kernel
theorem dX9_start_14 : decode cX9_start 14 = .ok (.getfield 34, 3) := by decide +kernel
theorem dX9_start_17 : decode cX9_start 17 = .ok (.getfield 65, 3) := by decide +kernel
theorem dX9_start_20 : decode cX9_start 20 = .ok (.iload_n 2, 1) := by decide +kernel
theorem dX9_start_21 : decode cX9_start 21 = .ok (.aload_n 0, 1) := by decide +kernel
theorem dX9_start_22 : decode cX9_start 22 = .ok (.iload_n 2, 1) := by decide +kernel
theorem dX9_start_23 : decode cX9_start 23 = .ok (.invokevirtual 68, 3) := by decide +kernel
theorem dX9_start_26 : decode cX9_start 26 = .ok (.iastore, 1) := by decide +kernel
theorem dX9_start_27 : decode cX9_start 27 = .ok (.iinc 2 1, 3) := by decide +kernel
theorem dX9_start_30 : decode cX9_start 30 = .ok (.goto (-28), 3) := by decide +kernel
theorem dX9_start_33 : decode cX9_start 33 = .ok (.aload_n 0, 1) := by decide +kernel
theorem dX9_start_34 : decode cX9_start 34 = .ok (.iconst 1, 1) := by decide +kernel
theorem dX9_start_35 : decode cX9_start 35 = .ok (.putfield 72, 3) := by decide +kernel
theorem dX9_start_38 : decode cX9_start 38 = .ok (.aload_n 0, 1) := by decide +kernel
theorem dX9_start_39 : decode cX9_start 39 = .ok (.iload_n 1, 1) := by decide +kernel
theorem dX9_start_40 : decode cX9_start 40 = .ok (.putfield 56, 3) := by decide +kernel
theorem dX9_start_43 : decode cX9_start 43 = .ok (.aload_n 0, 1) := by decide +kernel
theorem dX9_start_44 : decode cX9_start 44 = .ok (.getfield 52, 3) := by decide +kernel
theorem dX9_start_47 : decode cX9_start 47 = .ok (.iload_n 1, 1) := by decide +kernel
theorem dX9_start_48 : decode cX9_start 48 = .ok (.putfield 76, 3) := by decide +kernel
theorem dX9_start_51 : decode cX9_start 51 = .ok (.aload_n 0, 1) := by decide +kernel
theorem dX9_start_52 : decode cX9_start 52 = .ok (.iconst 0, 1) := by decide +kernel
theorem dX9_start_53 : decode cX9_start 53 = .ok (.putfield 77, 3) := by decide +kernel
theorem dX9_start_56 : decode cX9_start 56 = .ok (.aload_n 0, 1) := by decide +kernel
theorem dX9_start_57 : decode cX9_start 57 = .ok (.getfield 43, 3) := by decide +kernel
theorem dX9_start_60 : decode cX9_start 60 = .ok (.aload_n 0, 1) := by decide +kernel
theorem dX9_start_61 : decode cX9_start 61 = .ok (.getfield 56, 3) := by decide +kernel
theorem dX9_start_64 : decode cX9_start 64 = .ok (.invokevirtual 80, 3) := by decide +kernel
theorem dX9_start_67 : decode cX9_start 67 = .ok (.return_, 1) := by decide +kernel
theorem dX9_cellAsSaid_0 : decode cX9_cellAsSaid 0 = .ok (.aload_n 0, 1) := by decide +kernel
theorem dX9_cellAsSaid_1 : decode cX9_cellAsSaid 1 = .ok (.getfield 25, 3) := by decide +kernel
theorem dX9_cellAsSaid_4 : decode cX9_cellAsSaid 4 = .ok (.getfield 84, 3) := by decide +kernel
theorem dX9_cellAsSaid_7 : decode cX9_cellAsSaid 7 = .ok (.getfield 65, 3) := by decide +kernel
theorem dX9_cellAsSaid_10 : decode cX9_cellAsSaid 10 = .ok (.iload_n 1, 1) := by decide +kernel
theorem dX9_cellAsSaid_11 : decode cX9_cellAsSaid 11 = .ok (.iaload, 1) := by decide +kernel
theorem dX9_cellAsSaid_12 : decode cX9_cellAsSaid 12 = .ok (.istore_n 2, 1) := by decide +kernel
theorem dX9_cellAsSaid_13 : decode cX9_cellAsSaid 13 = .ok (.iconst 0, 1) := by decide +kernel
theorem dX9_cellAsSaid_14 : decode cX9_cellAsSaid 14 = .ok (.istore_n 3, 1) := by decide +kernel
theorem dX9_cellAsSaid_15 : decode cX9_cellAsSaid 15 = .ok (.iload_n 3, 1) := by decide +kernel
theorem dX9_cellAsSaid_16 : decode cX9_cellAsSaid 16 = .ok (.bipush 6, 2) := by decide +kernel
theorem dX9_cellAsSaid_18 : decode cX9_cellAsSaid 18 = .ok (.if_icmp .ge 45, 3) := by decide +kernel
theorem dX9_cellAsSaid_21 : decode cX9_cellAsSaid 21 = .ok (.aload_n 0, 1) := by decide +kernel
theorem dX9_cellAsSaid_22 : decode cX9_cellAsSaid 22 = .ok (.getfield 21, 3) := by decide +kernel
theorem dX9_cellAsSaid_25 : decode cX9_cellAsSaid 25 = .ok (.iload_n 1, 1) := by decide +kernel
theorem dX9_cellAsSaid_26 : decode cX9_cellAsSaid 26 = .ok (.iload_n 3, 1) := by decide +kernel
theorem dX9_cellAsSaid_27 : decode cX9_cellAsSaid 27 = .ok (.invokevirtual 89, 3) := by decide +kernel
theorem dX9_cellAsSaid_30 : decode cX9_cellAsSaid 30 = .ok (.ifCond .eq 27, 3) := by decide +kernel
theorem dX9_cellAsSaid_33 : decode cX9_cellAsSaid 33 = .ok (.iload_n 2, 1) := by decide +kernel
theorem dX9_cellAsSaid_34 : decode cX9_cellAsSaid 34 = .ok (.iload_n 3, 1) := by decide +kernel
theorem dX9_cellAsSaid_35 : decode cX9_cellAsSaid 35 = .ok (.aload_n 0, 1) := by decide +kernel
theorem dX9_cellAsSaid_36 : decode cX9_cellAsSaid 36 = .ok (.getfield 25, 3) := by decide +kernel
theorem dX9_cellAsSaid_39 : decode cX9_cellAsSaid 39 = .ok (.iload_n 1, 1) := by decide +kernel
theorem dX9_cellAsSaid_40 : decode cX9_cellAsSaid 40 = .ok (.iload_n 3, 1) := by decide +kernel
theorem dX9_cellAsSaid_41 : decode cX9_cellAsSaid 41 = .ok (.invokevirtual 93, 3) := by decide +kernel
theorem dX9_cellAsSaid_44 : decode cX9_cellAsSaid 44 = .ok (.iconst 1, 1) := by decide +kernel
theorem dX9_cellAsSaid_45 : decode cX9_cellAsSaid 45 = .ok (.if_icmp .ne 7, 3) := by decide +kernel
theorem dX9_cellAsSaid_48 : decode cX9_cellAsSaid 48 = .ok (.iconst 1, 1) := by decide +kernel
theorem dX9_cellAsSaid_49 : decode cX9_cellAsSaid 49 = .ok (.goto 4, 3) := by decide +kernel
theorem dX9_cellAsSaid_52 : decode cX9_cellAsSaid 52 = .ok (.iconst 0, 1) := by decide +kernel
theorem dX9_cellAsSaid_53 : decode cX9_cellAsSaid 53 = .ok (.invokestatic 97, 3) := by decide +kernel
theorem dX9_cellAsSaid_56 : decode cX9_cellAsSaid 56 = .ok (.istore_n 2, 1) := by decide +kernel
theorem dX9_cellAsSaid_57 : decode cX9_cellAsSaid 57 = .ok (.iinc 3 1, 3) := by decide +kernel
theorem dX9_cellAsSaid_60 : decode cX9_cellAsSaid 60 = .ok (.goto (-45), 3) := by decide +kernel
theorem dX9_cellAsSaid_63 : decode cX9_cellAsSaid 63 = .ok (.iload_n 2, 1) := by decide +kernel
theorem dX9_cellAsSaid_64 : decode cX9_cellAsSaid 64 = .ok (.ireturn, 1) := by decide +kernel
theorem dX9_end_0 : decode cX9_end 0 = .ok (.aload_n 0, 1) := by decide +kernel
theorem dX9_end_1 : decode cX9_end 1 = .ok (.iconst 0, 1) := by decide +kernel
theorem dX9_end_2 : decode cX9_end 2 = .ok (.putfield 72, 3) := by decide +kernel
theorem dX9_end_5 : decode cX9_end 5 = .ok (.aload_n 0, 1) := by decide +kernel
theorem dX9_end_6 : decode cX9_end 6 = .ok (.iconst 0, 1) := by decide +kernel
theorem dX9_end_7 : decode cX9_end 7 = .ok (.putfield 77, 3) := by decide +kernel
theorem dX9_end_10 : decode cX9_end 10 = .ok (.return_, 1) := by decide +kernel
theorem dX9_isAct_0 : decode cX9_isAct 0 = .ok (.iload_n 1, 1) := by decide +kernel
theorem dX9_isAct_1 : decode cX9_isAct 1 = .ok (.ifCond .lt 9, 3) := by decide +kernel
theorem dX9_isAct_4 : decode cX9_isAct 4 = .ok (.iload_n 1, 1) := by decide +kernel
theorem dX9_isAct_5 : decode cX9_isAct 5 = .ok (.bipush 12, 2) := by decide +kernel
theorem dX9_isAct_7 : decode cX9_isAct 7 = .ok (.if_icmp .le 5, 3) := by decide +kernel
theorem dX9_isAct_10 : decode cX9_isAct 10 = .ok (.iconst 0, 1) := by decide +kernel
theorem dX9_isAct_11 : decode cX9_isAct 11 = .ok (.ireturn, 1) := by decide +kernel
theorem dX9_isAct_12 : decode cX9_isAct 12 = .ok (.iload_n 1, 1) := by decide +kernel
theorem dX9_isAct_13 : decode cX9_isAct 13 = .ok (.ifCond .ne 10, 3) := by decide +kernel
theorem dX9_isAct_16 : decode cX9_isAct 16 = .ok (.iload_n 2, 1) := by decide +kernel
theorem dX9_isAct_17 : decode cX9_isAct 17 = .ok (.bipush 10, 2) := by decide +kernel
theorem dX9_isAct_19 : decode cX9_isAct 19 = .ok (.invokestatic 101, 3) := by decide +kernel
theorem dX9_isAct_22 : decode cX9_isAct 22 = .ok (.ireturn, 1) := by decide +kernel
theorem dX9_isAct_23 : decode cX9_isAct 23 = .ok (.iload_n 1, 1) := by decide +kernel
theorem dX9_isAct_24 : decode cX9_isAct 24 = .ok (.invokestatic 104, 3) := by decide +kernel
theorem dX9_isAct_27 : decode cX9_isAct 27 = .ok (.ifCond .eq 14, 3) := by decide +kernel
theorem dX9_isAct_30 : decode cX9_isAct 30 = .ok (.aload_n 0, 1) := by decide +kernel
theorem dX9_isAct_31 : decode cX9_isAct 31 = .ok (.getfield 21, 3) := by decide +kernel
theorem dX9_isAct_34 : decode cX9_isAct 34 = .ok (.iload_n 2, 1) := by decide +kernel
theorem dX9_isAct_35 : decode cX9_isAct 35 = .ok (.invokevirtual 108, 3) := by decide +kernel
theorem dX9_isAct_38 : decode cX9_isAct 38 = .ok (.ifCond .eq 25, 3) := by decide +kernel
theorem dX9_isAct_41 : decode cX9_isAct 41 = .ok (.iload_n 1, 1) := by decide +kernel
theorem dX9_isAct_42 : decode cX9_isAct 42 = .ok (.invokestatic 111, 3) := by decide +kernel
theorem dX9_isAct_45 : decode cX9_isAct 45 = .ok (.ifCond .eq 14, 3) := by decide +kernel
theorem dX9_isAct_48 : decode cX9_isAct 48 = .ok (.aload_n 0, 1) := by decide +kernel
theorem dX9_isAct_49 : decode cX9_isAct 49 = .ok (.getfield 21, 3) := by decide +kernel
theorem dX9_isAct_52 : decode cX9_isAct 52 = .ok (.iload_n 3, 1) := by decide +kernel
theorem dX9_isAct_53 : decode cX9_isAct 53 = .ok (.invokevirtual 108, 3) := by decide +kernel
theorem dX9_isAct_56 : decode cX9_isAct 56 = .ok (.ifCond .eq 7, 3) := by decide +kernel
theorem dX9_isAct_59 : decode cX9_isAct 59 = .ok (.iconst 1, 1) := by decide +kernel
theorem dX9_isAct_60 : decode cX9_isAct 60 = .ok (.goto 4, 3) := by decide +kernel
theorem dX9_isAct_63 : decode cX9_isAct 63 = .ok (.iconst 0, 1) := by decide +kernel
theorem dX9_isAct_64 : decode cX9_isAct 64 = .ok (.ireturn, 1) := by decide +kernel
theorem dX9_play_0 : decode cX9_play 0 = .ok (.aload_n 0, 1) := by decide +kernel
theorem dX9_play_1 : decode cX9_play 1 = .ok (.getfield 52, 3) := by decide +kernel
theorem dX9_play_4 : decode cX9_play 4 = .ok (.iload_n 1, 1) := by decide +kernel
theorem dX9_play_5 : decode cX9_play 5 = .ok (.iload_n 2, 1) := by decide +kernel
theorem dX9_play_6 : decode cX9_play 6 = .ok (.invokevirtual 114, 3) := by decide +kernel
theorem dX9_play_9 : decode cX9_play 9 = .ok (.istore 4, 2) := by decide +kernel
theorem dX9_play_11 : decode cX9_play 11 = .ok (.iload 4, 2) := by decide +kernel
theorem dX9_play_13 : decode cX9_play 13 = .ok (.ifCond .ne 15, 3) := by decide +kernel
theorem dX9_play_16 : decode cX9_play 16 = .ok (.aload_n 0, 1) := by decide +kernel
theorem dX9_play_17 : decode cX9_play 17 = .ok (.getfield 52, 3) := by decide +kernel
theorem dX9_play_20 : decode cX9_play 20 = .ok (.iload_n 1, 1) := by decide +kernel
theorem dX9_play_21 : decode cX9_play 21 = .ok (.iload_n 2, 1) := by decide +kernel
theorem dX9_play_22 : decode cX9_play 22 = .ok (.iload_n 3, 1) := by decide +kernel
theorem dX9_play_23 : decode cX9_play 23 = .ok (.invokevirtual 117, 3) := by decide +kernel
theorem dX9_play_26 : decode cX9_play 26 = .ok (.istore 4, 2) := by decide +kernel
theorem dX9_play_28 : decode cX9_play 28 = .ok (.iload 4, 2) := by decide +kernel
theorem dX9_play_30 : decode cX9_play 30 = .ok (.ifCond .ne 10, 3) := by decide +kernel
theorem dX9_play_33 : decode cX9_play 33 = .ok (.aload_n 0, 1) := by decide +kernel
theorem dX9_play_34 : decode cX9_play 34 = .ok (.iload_n 1, 1) := by decide +kernel
theorem dX9_play_35 : decode cX9_play 35 = .ok (.iload_n 2, 1) := by decide +kernel
theorem dX9_play_36 : decode cX9_play 36 = .ok (.iload_n 3, 1) := by decide +kernel
theorem dX9_play_37 : decode cX9_play 37 = .ok (.invokevirtual 121, 3) := by decide +kernel
theorem dX9_play_40 : decode cX9_play 40 = .ok (.iload 4, 2) := by decide +kernel
theorem dX9_play_42 : decode cX9_play 42 = .ok (.ireturn, 1) := by decide +kernel
theorem dX9_doIt_0 : decode cX9_doIt 0 = .ok (.aload_n 0, 1) := by decide +kernel
theorem dX9_doIt_1 : decode cX9_doIt 1 = .ok (.getfield 52, 3) := by decide +kernel
theorem dX9_doIt_4 : decode cX9_doIt 4 = .ok (.iload_n 1, 1) := by decide +kernel
theorem dX9_doIt_5 : decode cX9_doIt 5 = .ok (.iload_n 2, 1) := by decide +kernel
theorem dX9_doIt_6 : decode cX9_doIt 6 = .ok (.invokevirtual 125, 3) := by decide +kernel
theorem dX9_doIt_9 : decode cX9_doIt 9 = .ok (.istore 4, 2) := by decide +kernel
theorem dX9_doIt_11 : decode cX9_doIt 11 = .ok (.aload_n 0, 1) := by decide +kernel
theorem dX9_doIt_12 : decode cX9_doIt 12 = .ok (.getfield 9, 3) := by decide +kernel
theorem dX9_doIt_15 : decode cX9_doIt 15 = .ok (.aload_n 0, 1) := by decide +kernel
theorem dX9_doIt_16 : decode cX9_doIt 16 = .ok (.getfield 77, 3) := by decide +kernel
theorem dX9_doIt_19 : decode cX9_doIt 19 = .ok (.iload_n 1, 1) := by decide +kernel
theorem dX9_doIt_20 : decode cX9_doIt 20 = .ok (.iload_n 1, 1) := by decide +kernel
theorem dX9_doIt_21 : decode cX9_doIt 21 = .ok (.invokestatic 104, 3) := by decide +kernel
theorem dX9_doIt_24 : decode cX9_doIt 24 = .ok (.ifCond .eq 7, 3) := by decide +kernel
theorem dX9_doIt_27 : decode cX9_doIt 27 = .ok (.iload_n 2, 1) := by decide +kernel
theorem dX9_doIt_28 : decode cX9_doIt 28 = .ok (.goto 4, 3) := by decide +kernel
theorem dX9_doIt_31 : decode cX9_doIt 31 = .ok (.iconst 0, 1) := by decide +kernel
theorem dX9_doIt_32 : decode cX9_doIt 32 = .ok (.iload_n 1, 1) := by decide +kernel
theorem dX9_doIt_33 : decode cX9_doIt 33 = .ok (.invokestatic 111, 3) := by decide +kernel
theorem dX9_doIt_36 : decode cX9_doIt 36 = .ok (.ifCond .eq 7, 3) := by decide +kernel
theorem dX9_doIt_39 : decode cX9_doIt 39 = .ok (.iload_n 3, 1) := by decide +kernel
theorem dX9_doIt_40 : decode cX9_doIt 40 = .ok (.goto 4, 3) := by decide +kernel
theorem dX9_doIt_43 : decode cX9_doIt 43 = .ok (.iconst 0, 1) := by decide +kernel
theorem dX9_doIt_44 : decode cX9_doIt 44 = .ok (.invokestatic 128, 3) := by decide +kernel
theorem dX9_doIt_47 : decode cX9_doIt 47 = .ok (.iastore, 1) := by decide +kernel
theorem dX9_doIt_48 : decode cX9_doIt 48 = .ok (.aload_n 0, 1) := by decide +kernel
theorem dX9_doIt_49 : decode cX9_doIt 49 = .ok (.getfield 15, 3) := by decide +kernel
theorem dX9_doIt_52 : decode cX9_doIt 52 = .ok (.aload_n 0, 1) := by decide +kernel
theorem dX9_doIt_53 : decode cX9_doIt 53 = .ok (.getfield 77, 3) := by decide +kernel
theorem dX9_doIt_56 : decode cX9_doIt 56 = .ok (.iload 4, 2) := by decide +kernel
theorem dX9_doIt_58 : decode cX9_doIt 58 = .ok (.iastore, 1) := by decide +kernel
theorem dX9_doIt_59 : decode cX9_doIt 59 = .ok (.aload_n 0, 1) := by decide +kernel
theorem dX9_doIt_60 : decode cX9_doIt 60 = .ok (.getfield 18, 3) := by decide +kernel
theorem dX9_doIt_63 : decode cX9_doIt 63 = .ok (.aload_n 0, 1) := by decide +kernel
theorem dX9_doIt_64 : decode cX9_doIt 64 = .ok (.getfield 77, 3) := by decide +kernel
theorem dX9_doIt_67 : decode cX9_doIt 67 = .ok (.aload_n 0, 1) := by decide +kernel
theorem dX9_doIt_68 : decode cX9_doIt 68 = .ok (.getfield 34, 3) := by decide +kernel
theorem dX9_doIt_71 : decode cX9_doIt 71 = .ok (.getfield 65, 3) := by decide +kernel
theorem dX9_doIt_74 : decode cX9_doIt 74 = .ok (.iload 4, 2) := by decide +kernel
theorem dX9_doIt_76 : decode cX9_doIt 76 = .ok (.iaload, 1) := by decide +kernel
theorem dX9_doIt_77 : decode cX9_doIt 77 = .ok (.iastore, 1) := by decide +kernel
theorem dX9_doIt_78 : decode cX9_doIt 78 = .ok (.aload_n 0, 1) := by decide +kernel
theorem dX9_doIt_79 : decode cX9_doIt 79 = .ok (.dup, 1) := by decide +kernel
theorem dX9_doIt_80 : decode cX9_doIt 80 = .ok (.getfield 77, 3) := by decide +kernel
theorem dX9_doIt_83 : decode cX9_doIt 83 = .ok (.iconst 1, 1) := by decide +kernel
theorem dX9_doIt_84 : decode cX9_doIt 84 = .ok (.iadd, 1) := by decide +kernel
theorem dX9_doIt_85 : decode cX9_doIt 85 = .ok (.putfield 77, 3) := by decide +kernel
theorem dX9_doIt_88 : decode cX9_doIt 88 = .ok (.aload_n 0, 1) := by decide +kernel
theorem dX9_doIt_89 : decode cX9_doIt 89 = .ok (.getfield 34, 3) := by decide +kernel
theorem dX9_doIt_92 : decode cX9_doIt 92 = .ok (.getfield 65, 3) := by decide +kernel
theorem dX9_doIt_95 : decode cX9_doIt 95 = .ok (.iload 4, 2) := by decide +kernel
theorem dX9_doIt_97 : decode cX9_doIt 97 = .ok (.aload_n 0, 1) := by decide +kernel
