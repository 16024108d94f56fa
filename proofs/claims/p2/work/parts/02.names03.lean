theorem dX12_hasSecond_6 : decode cX12_hasSecond 6 = .ok (.iconst 4, 1) := by decide +kernel
theorem dX12_hasSecond_7 : decode cX12_hasSecond 7 = .ok (.if_icmp .eq 15, 3) := by decide +kernel
theorem dX12_hasSecond_10 : decode cX12_hasSecond 10 = .ok (.iload_n 0, 1) := by decide +kernel
theorem dX12_hasSecond_11 : decode cX12_hasSecond 11 = .ok (.bipush 7, 2) := by decide +kernel
theorem dX12_hasSecond_13 : decode cX12_hasSecond 13 = .ok (.if_icmp .eq 9, 3) := by decide +kernel
theorem dX12_hasSecond_16 : decode cX12_hasSecond 16 = .ok (.iload_n 0, 1) := by decide +kernel
theorem dX12_hasSecond_17 : decode cX12_hasSecond 17 = .ok (.bipush 8, 2) := by decide +kernel
theorem dX12_hasSecond_19 : decode cX12_hasSecond 19 = .ok (.if_icmp .ne 7, 3) := by decide +kernel
theorem dX12_hasSecond_22 : decode cX12_hasSecond 22 = .ok (.iconst 1, 1) := by decide +kernel
theorem dX12_hasSecond_23 : decode cX12_hasSecond 23 = .ok (.goto 4, 3) := by decide +kernel
theorem dX12_hasSecond_26 : decode cX12_hasSecond 26 = .ok (.iconst 0, 1) := by decide +kernel
theorem dX12_hasSecond_27 : decode cX12_hasSecond 27 = .ok (.ireturn, 1) := by decide +kernel
theorem dX12_keepState_0 : decode cX12_keepState 0 = .ok (.iconst 0, 1) := by decide +kernel
theorem dX12_keepState_1 : decode cX12_keepState 1 = .ok (.istore_n 2, 1) := by decide +kernel
theorem dX12_keepState_2 : decode cX12_keepState 2 = .ok (.iload_n 2, 1) := by decide +kernel
theorem dX12_keepState_3 : decode cX12_keepState 3 = .ok (.aload_n 0, 1) := by decide +kernel
theorem dX12_keepState_4 : decode cX12_keepState 4 = .ok (.getfield 177, 3) := by decide +kernel
theorem dX12_keepState_7 : decode cX12_keepState 7 = .ok (.if_icmp .ge 86, 3) := by decide +kernel
theorem dX12_keepState_10 : decode cX12_keepState 10 = .ok (.aload_n 0, 1) := by decide +kernel
theorem dX12_keepState_11 : decode cX12_keepState 11 = .ok (.getfield 107, 3) := by decide +kernel
theorem dX12_keepState_14 : decode cX12_keepState 14 = .ok (.bipush 30, 2) := by decide +kernel
theorem dX12_keepState_16 : decode cX12_keepState 16 = .ok (.iload_n 1, 1) := by decide +kernel
theorem dX12_keepState_17 : decode cX12_keepState 17 = .ok (.imul, 1) := by decide +kernel
theorem dX12_keepState_18 : decode cX12_keepState 18 = .ok (.iload_n 2, 1) := by decide +kernel
theorem dX12_keepState_19 : decode cX12_keepState 19 = .ok (.iadd, 1) := by decide +kernel
theorem dX12_keepState_20 : decode cX12_keepState 20 = .ok (.aload_n 0, 1) := by decide +kernel
theorem dX12_keepState_21 : decode cX12_keepState 21 = .ok (.getfield 50, 3) := by decide +kernel
theorem dX12_keepState_24 : decode cX12_keepState 24 = .ok (.iload_n 2, 1) := by decide +kernel
theorem dX12_keepState_25 : decode cX12_keepState 25 = .ok (.iaload, 1) := by decide +kernel
theorem dX12_keepState_26 : decode cX12_keepState 26 = .ok (.i2b, 1) := by decide +kernel
theorem dX12_keepState_27 : decode cX12_keepState 27 = .ok (.bastore, 1) := by decide +kernel
theorem dX12_keepState_28 : decode cX12_keepState 28 = .ok (.aload_n 0, 1) := by decide +kernel
theorem dX12_keepState_29 : decode cX12_keepState 29 = .ok (.getfield 111, 3) := by decide +kernel
theorem dX12_keepState_32 : decode cX12_keepState 32 = .ok (.bipush 30, 2) := by decide +kernel
theorem dX12_keepState_34 : decode cX12_keepState 34 = .ok (.iload_n 1, 1) := by decide +kernel
theorem dX12_keepState_35 : decode cX12_keepState 35 = .ok (.imul, 1) := by decide +kernel
theorem dX12_keepState_36 : decode cX12_keepState 36 = .ok (.iload_n 2, 1) := by decide +kernel
theorem dX12_keepState_37 : decode cX12_keepState 37 = .ok (.iadd, 1) := by decide +kernel
theorem dX12_keepState_38 : decode cX12_keepState 38 = .ok (.aload_n 0, 1) := by decide +kernel
theorem dX12_keepState_39 : decode cX12_keepState 39 = .ok (.getfield 53, 3) := by decide +kernel
theorem dX12_keepState_42 : decode cX12_keepState 42 = .ok (.iload_n 2, 1) := by decide +kernel
theorem dX12_keepState_43 : decode cX12_keepState 43 = .ok (.iaload, 1) := by decide +kernel
theorem dX12_keepState_44 : decode cX12_keepState 44 = .ok (.i2b, 1) := by decide +kernel
theorem dX12_keepState_45 : decode cX12_keepState 45 = .ok (.bastore, 1) := by decide +kernel
theorem dX12_keepState_46 : decode cX12_keepState 46 = .ok (.aload_n 0, 1) := by decide +kernel
theorem dX12_keepState_47 : decode cX12_keepState 47 = .ok (.getfield 114, 3) := by decide +kernel
theorem dX12_keepState_50 : decode cX12_keepState 50 = .ok (.bipush 30, 2) := by decide +kernel
theorem dX12_keepState_52 : decode cX12_keepState 52 = .ok (.iload_n 1, 1) := by decide +kernel
theorem dX12_keepState_53 : decode cX12_keepState 53 = .ok (.imul, 1) := by decide +kernel
theorem dX12_keepState_54 : decode cX12_keepState 54 = .ok (.iload_n 2, 1) := by decide +kernel
theorem dX12_keepState_55 : decode cX12_keepState 55 = .ok (.iadd, 1) := by decide +kernel
theorem dX12_keepState_56 : decode cX12_keepState 56 = .ok (.aload_n 0, 1) := by decide +kernel
theorem dX12_keepState_57 : decode cX12_keepState 57 = .ok (.getfield 56, 3) := by decide +kernel
theorem dX12_keepState_60 : decode cX12_keepState 60 = .ok (.iload_n 2, 1) := by decide +kernel
theorem dX12_keepState_61 : decode cX12_keepState 61 = .ok (.baload, 1) := by decide +kernel
theorem dX12_keepState_62 : decode cX12_keepState 62 = .ok (.ifCond .eq 7, 3) := by decide +kernel
theorem dX12_keepState_65 : decode cX12_keepState 65 = .ok (.iconst 1, 1) := by decide +kernel
theorem dX12_keepState_66 : decode cX12_keepState 66 = .ok (.goto 4, 3) := by decide +kernel
theorem dX12_keepState_69 : decode cX12_keepState 69 = .ok (.iconst 0, 1) := by decide +kernel
theorem dX12_keepState_70 : decode cX12_keepState 70 = .ok (.aload_n 0, 1) := by decide +kernel
theorem dX12_keepState_71 : decode cX12_keepState 71 = .ok (.getfield 59, 3) := by decide +kernel
theorem dX12_keepState_74 : decode cX12_keepState 74 = .ok (.iload_n 2, 1) := by decide +kernel
theorem dX12_keepState_75 : decode cX12_keepState 75 = .ok (.baload, 1) := by decide +kernel
theorem dX12_keepState_76 : decode cX12_keepState 76 = .ok (.ifCond .eq 7, 3) := by decide +kernel
theorem dX12_keepState_79 : decode cX12_keepState 79 = .ok (.iconst 2, 1) := by decide +kernel
theorem dX12_keepState_80 : decode cX12_keepState 80 = .ok (.goto 4, 3) := by decide +kernel
theorem dX12_keepState_83 : decode cX12_keepState 83 = .ok (.iconst 0, 1) := by decide +kernel
theorem dX12_keepState_84 : decode cX12_keepState 84 = .ok (.iadd, 1) := by decide +kernel
theorem dX12_keepState_85 : decode cX12_keepState 85 = .ok (.i2b, 1) := by decide +kernel
theorem dX12_keepState_86 : decode cX12_keepState 86 = .ok (.bastore, 1) := by decide +kernel
theorem dX12_keepState_87 : decode cX12_keepState 87 = .ok (.iinc 2 1, 3) := by decide +kernel
theorem dX12_keepState_90 : decode cX12_keepState 90 = .ok (.goto (-88), 3) := by decide +kernel
theorem dX12_keepState_93 : decode cX12_keepState 93 = .ok (.return_, 1) := by decide +kernel
theorem dX12_giveState_0 : decode cX12_giveState 0 = .ok (.iconst 0, 1) := by decide +kernel
theorem dX12_giveState_1 : decode cX12_giveState 1 = .ok (.istore_n 2, 1) := by decide +kernel
theorem dX12_giveState_2 : decode cX12_giveState 2 = .ok (.iload_n 2, 1) := by decide +kernel
theorem dX12_giveState_3 : decode cX12_giveState 3 = .ok (.aload_n 0, 1) := by decide +kernel
theorem dX12_giveState_4 : decode cX12_giveState 4 = .ok (.getfield 177, 3) := by decide +kernel
theorem dX12_giveState_7 : decode cX12_giveState 7 = .ok (.if_icmp .ge 99, 3) := by decide +kernel
theorem dX12_giveState_10 : decode cX12_giveState 10 = .ok (.aload_n 0, 1) := by decide +kernel
theorem dX12_giveState_11 : decode cX12_giveState 11 = .ok (.getfield 50, 3) := by decide +kernel
theorem dX12_giveState_14 : decode cX12_giveState 14 = .ok (.iload_n 2, 1) := by decide +kernel
theorem dX12_giveState_15 : decode cX12_giveState 15 = .ok (.aload_n 0, 1) := by decide +kernel
theorem dX12_giveState_16 : decode cX12_giveState 16 = .ok (.getfield 107, 3) := by decide +kernel
theorem dX12_giveState_19 : decode cX12_giveState 19 = .ok (.bipush 30, 2) := by decide +kernel
theorem dX12_giveState_21 : decode cX12_giveState 21 = .ok (.iload_n 1, 1) := by decide +kernel
theorem dX12_giveState_22 : decode cX12_giveState 22 = .ok (.imul, 1) := by decide +kernel
theorem dX12_giveState_23 : decode cX12_giveState 23 = .ok (.iload_n 2, 1) := by decide +kernel
theorem dX12_giveState_24 : decode cX12_giveState 24 = .ok (.iadd, 1) := by decide +kernel
theorem dX12_giveState_25 : decode cX12_giveState 25 = .ok (.baload, 1) := by decide +kernel
theorem dX12_giveState_26 : decode cX12_giveState 26 = .ok (.iastore, 1) := by decide +kernel
theorem dX12_giveState_27 : decode cX12_giveState 27 = .ok (.aload_n 0, 1) := by decide +kernel
theorem dX12_giveState_28 : decode cX12_giveState 28 = .ok (.getfield 53, 3) := by decide +kernel
theorem dX12_giveState_31 : decode cX12_giveState 31 = .ok (.iload_n 2, 1) := by decide +kernel
theorem dX12_giveState_32 : decode cX12_giveState 32 = .ok (.aload_n 0, 1) := by decide +kernel
theorem dX12_giveState_33 : decode cX12_giveState 33 = .ok (.getfield 111, 3) := by decide +kernel
theorem dX12_giveState_36 : decode cX12_giveState 36 = .ok (.bipush 30, 2) := by decide +kernel
theorem dX12_giveState_38 : decode cX12_giveState 38 = .ok (.iload_n 1, 1) := by decide +kernel
theorem dX12_giveState_39 : decode cX12_giveState 39 = .ok (.imul, 1) := by decide +kernel
theorem dX12_giveState_40 : decode cX12_giveState 40 = .ok (.iload_n 2, 1) := by decide +kernel
theorem dX12_giveState_41 : decode cX12_giveState 41 = .ok (.iadd, 1) := by decide +kernel
theorem dX12_giveState_42 : decode cX12_giveState 42 = .ok (.baload, 1) := by decide +kernel
theorem dX12_giveState_43 : decode cX12_giveState 43 = .ok (.iastore, 1) := by decide +kernel
theorem dX12_giveState_44 : decode cX12_giveState 44 = .ok (.aload_n 0, 1) := by decide +kernel
theorem dX12_giveState_45 : decode cX12_giveState 45 = .ok (.getfield 56, 3) := by decide +kernel
theorem dX12_giveState_48 : decode cX12_giveState 48 = .ok (.iload_n 2, 1) := by decide +kernel
theorem dX12_giveState_49 : decode cX12_giveState 49 = .ok (.aload_n 0, 1) := by decide +kernel
theorem dX12_giveState_50 : decode cX12_giveState 50 = .ok (.getfield 114, 3) := by decide +kernel
theorem dX12_giveState_53 : decode cX12_giveState 53 = .ok (.bipush 30, 2) := by decide +kernel
theorem dX12_giveState_55 : decode cX12_giveState 55 = .ok (.iload_n 1, 1) := by decide +kernel
theorem dX12_giveState_56 : decode cX12_giveState 56 = .ok (.imul, 1) := by decide +kernel
theorem dX12_giveState_57 : decode cX12_giveState 57 = .ok (.iload_n 2, 1) := by decide +kernel
theorem dX12_giveState_58 : decode cX12_giveState 58 = .ok (.iadd, 1) := by decide +kernel
theorem dX12_giveState_59 : decode cX12_giveState 59 = .ok (.baload, 1) := by decide +kernel
theorem dX12_giveState_60 : decode cX12_giveState 60 = .ok (.iconst 1, 1) := by decide +kernel
theorem dX12_giveState_61 : decode cX12_giveState 61 = .ok (.iand, 1) := by decide +kernel
theorem dX12_giveState_62 : decode cX12_giveState 62 = .ok (.iconst 1, 1) := by decide +kernel
theorem dX12_giveState_63 : decode cX12_giveState 63 = .ok (.if_icmp .ne 7, 3) := by decide +kernel
theorem dX12_giveState_66 : decode cX12_giveState 66 = .ok (.iconst 1, 1) := by decide +kernel
theorem dX12_giveState_67 : decode cX12_giveState 67 = .ok (.goto 4, 3) := by decide +kernel
theorem dX12_giveState_70 : decode cX12_giveState 70 = .ok (.iconst 0, 1) := by decide +kernel
theorem dX12_giveState_71 : decode cX12_giveState 71 = .ok (.bastore, 1) := by decide +kernel
theorem dX12_giveState_72 : decode cX12_giveState 72 = .ok (.aload_n 0, 1) := by decide +kernel
theorem dX12_giveState_73 : decode cX12_giveState 73 = .ok (.getfield 59, 3) := by decide +kernel
theorem dX12_giveState_76 : decode cX12_giveState 76 = .ok (.iload_n 2, 1) := by decide +kernel
theorem dX12_giveState_77 : decode cX12_giveState 77 = .ok (.aload_n 0, 1) := by decide +kernel
theorem dX12_giveState_78 : decode cX12_giveState 78 = .ok (.getfield 114, 3) := by decide +kernel
theorem dX12_giveState_81 : decode cX12_giveState 81 = .ok (.bipush 30, 2) := by decide +kernel
theorem dX12_giveState_83 : decode cX12_giveState 83 = .ok (.iload_n 1, 1) := by decide +kernel
theorem dX12_giveState_84 : decode cX12_giveState 84 = .ok (.imul, 1) := by decide +kernel
theorem dX12_giveState_85 : decode cX12_giveState 85 = .ok (.iload_n 2, 1) := by decide +kernel
theorem dX12_giveState_86 : decode cX12_giveState 86 = .ok (.iadd, 1) := by decide +kernel
theorem dX12_giveState_87 : decode cX12_giveState 87 = .ok (.baload, 1) := by decide +kernel
theorem dX12_giveState_88 : decode cX12_giveState 88 = .ok (.iconst 2, 1) := by decide +kernel
theorem dX12_giveState_89 : decode cX12_giveState 89 = .ok (.iand, 1) := by decide +kernel
theorem dX12_giveState_90 : decode cX12_giveState 90 = .ok (.iconst 2, 1) := by decide +kernel
theorem dX12_giveState_91 : decode cX12_giveState 91 = .ok (.if_icmp .ne 7, 3) := by decide +kernel
theorem dX12_giveState_94 : decode cX12_giveState 94 = .ok (.iconst 1, 1) := by decide +kernel
theorem dX12_giveState_95 : decode cX12_giveState 95 = .ok (.goto 4, 3) := by decide +kernel
theorem dX12_giveState_98 : decode cX12_giveState 98 = .ok (.iconst 0, 1) := by decide +kernel
theorem dX12_giveState_99 : decode cX12_giveState 99 = .ok (.bastore, 1) := by decide +kernel
theorem dX12_giveState_100 : decode cX12_giveState 100 = .ok (.iinc 2 1, 3) := by decide +kernel
theorem dX12_giveState_103 : decode cX12_giveState 103 = .ok (.goto (-101), 3) := by decide +kernel
theorem dX12_giveState_106 : decode cX12_giveState 106 = .ok (.return_, 1) := by decide +kernel
theorem dX12_isState_0 : decode cX12_isState 0 = .ok (.iconst 0, 1) := by decide +kernel
theorem dX12_isState_1 : decode cX12_isState 1 = .ok (.istore_n 2, 1) := by decide +kernel
theorem dX12_isState_2 : decode cX12_isState 2 = .ok (.iload_n 2, 1) := by decide +kernel
theorem dX12_isState_3 : decode cX12_isState 3 = .ok (.aload_n 0, 1) := by decide +kernel
theorem dX12_isState_4 : decode cX12_isState 4 = .ok (.getfield 177, 3) := by decide +kernel
theorem dX12_isState_7 : decode cX12_isState 7 = .ok (.if_icmp .ge 94, 3) := by decide +kernel
theorem dX12_isState_10 : decode cX12_isState 10 = .ok (.aload_n 0, 1) := by decide +kernel
theorem dX12_isState_11 : decode cX12_isState 11 = .ok (.getfield 107, 3) := by decide +kernel
theorem dX12_isState_14 : decode cX12_isState 14 = .ok (.bipush 30, 2) := by decide +kernel
theorem dX12_isState_16 : decode cX12_isState 16 = .ok (.iload_n 1, 1) := by decide +kernel
theorem dX12_isState_17 : decode cX12_isState 17 = .ok (.imul, 1) := by decide +kernel
theorem dX12_isState_18 : decode cX12_isState 18 = .ok (.iload_n 2, 1) := by decide +kernel
theorem dX12_isState_19 : decode cX12_isState 19 = .ok (.iadd, 1) := by decide +kernel
theorem dX12_isState_20 : decode cX12_isState 20 = .ok (.baload, 1) := by decide +kernel
theorem dX12_isState_21 : decode cX12_isState 21 = .ok (.aload_n 0, 1) := by decide +kernel
theorem dX12_isState_22 : decode cX12_isState 22 = .ok (.getfield 50, 3) := by decide +kernel
theorem dX12_isState_25 : decode cX12_isState 25 = .ok (.iload_n 2, 1) := by decide +kernel
theorem dX12_isState_26 : decode cX12_isState 26 = .ok (.iaload, 1) := by decide +kernel
theorem dX12_isState_27 : decode cX12_isState 27 = .ok (.if_icmp .ne 66, 3) := by decide +kernel
theorem dX12_isState_30 : decode cX12_isState 30 = .ok (.aload_n 0, 1) := by decide +kernel
theorem dX12_isState_31 : decode cX12_isState 31 = .ok (.getfield 111, 3) := by decide +kernel
theorem dX12_isState_34 : decode cX12_isState 34 = .ok (.bipush 30, 2) := by decide +kernel
theorem dX12_isState_36 : decode cX12_isState 36 = .ok (.iload_n 1, 1) := by decide +kernel
theorem dX12_isState_37 : decode cX12_isState 37 = .ok (.imul, 1) := by decide +kernel
theorem dX12_isState_38 : decode cX12_isState 38 = .ok (.iload_n 2, 1) := by decide +kernel
theorem dX12_isState_39 : decode cX12_isState 39 = .ok (.iadd, 1) := by decide +kernel
theorem dX12_isState_40 : decode cX12_isState 40 = .ok (.baload, 1) := by decide +kernel
theorem dX12_isState_41 : decode cX12_isState 41 = .ok (.aload_n 0, 1) := by decide +kernel
theorem dX12_isState_42 : decode cX12_isState 42 = .ok (.getfield 53, 3) := by decide +kernel
theorem dX12_isState_45 : decode cX12_isState 45 = .ok (.iload_n 2, 1) := by decide +kernel
theorem dX12_isState_46 : decode cX12_isState 46 = .ok (.iaload, 1) := by decide +kernel
theorem dX12_isState_47 : decode cX12_isState 47 = .ok (.if_icmp .ne 46, 3) := by decide +kernel
theorem dX12_isState_50 : decode cX12_isState 50 = .ok (.aload_n 0, 1) := by decide +kernel
theorem dX12_isState_51 : decode cX12_isState 51 = .ok (.getfield 114, 3) := by decide +kernel
theorem dX12_isState_54 : decode cX12_isState 54 = .ok (.bipush 30, 2) := by decide +kernel
theorem dX12_isState_56 : decode cX12_isState 56 = .ok (.iload_n 1, 1) := by decide +kernel
theorem dX12_isState_57 : decode cX12_isState 57 = .ok (.imul, 1) := by decide +kernel
theorem dX12_isState_58 : decode cX12_isState 58 = .ok (.iload_n 2, 1) := by decide +kernel
theorem dX12_isState_59 : decode cX12_isState 59 = .ok (.iadd, 1) := by decide +kernel
theorem dX12_isState_60 : decode cX12_isState 60 = .ok (.baload, 1) := by decide +kernel
theorem dX12_isState_61 : decode cX12_isState 61 = .ok (.aload_n 0, 1) := by decide +kernel
theorem dX12_isState_62 : decode cX12_isState 62 = .ok (.getfield 56, 3) := by decide +kernel
theorem dX12_isState_65 : decode cX12_isState 65 = .ok (.iload_n 2, 1) := by decide +kernel
theorem dX12_isState_66 : decode cX12_isState 66 = .ok (.baload, 1) := by decide +kernel
theorem dX12_isState_67 : decode cX12_isState 67 = .ok (.ifCond .eq 7, 3) := by decide +kernel
theorem dX12_isState_70 : decode cX12_isState 70 = .ok (.iconst 1, 1) := by decide +kernel
theorem dX12_isState_71 : decode cX12_isState 71 = .ok (.goto 4, 3) := by decide +kernel
theorem dX12_isState_74 : decode cX12_isState 74 = .ok (.iconst 0, 1) := by decide +kernel
theorem dX12_isState_75 : decode cX12_isState 75 = .ok (.aload_n 0, 1) := by decide +kernel
theorem dX12_isState_76 : decode cX12_isState 76 = .ok (.getfield 59, 3) := by decide +kernel
theorem dX12_isState_79 : decode cX12_isState 79 = .ok (.iload_n 2, 1) := by decide +kernel
theorem dX12_isState_80 : decode cX12_isState 80 = .ok (.baload, 1) := by decide +kernel
theorem dX12_isState_81 : decode cX12_isState 81 = .ok (.ifCond .eq 7, 3) := by decide +kernel
theorem dX12_isState_84 : decode cX12_isState 84 = .ok (.iconst 2, 1) := by decide +kernel
theorem dX12_isState_85 : decode cX12_isState 85 = .ok (.goto 4, 3) := by decide +kernel
theorem dX12_isState_88 : decode cX12_isState 88 = .ok (.iconst 0, 1) := by decide +kernel
theorem dX12_isState_89 : decode cX12_isState 89 = .ok (.iadd, 1) := by decide +kernel
theorem dX12_isState_90 : decode cX12_isState 90 = .ok (.if_icmp .eq 5, 3) := by decide +kernel
theorem dX12_isState_93 : decode cX12_isState 93 = .ok (.iconst 0, 1) := by decide +kernel
theorem dX12_isState_94 : decode cX12_isState 94 = .ok (.ireturn, 1) := by decide +kernel
theorem dX12_isState_95 : decode cX12_isState 95 = .ok (.iinc 2 1, 3) := by decide +kernel
theorem dX12_isState_98 : decode cX12_isState 98 = .ok (.goto (-96), 3) := by decide +kernel
theorem dX12_isState_101 : decode cX12_isState 101 = .ok (.iconst 1, 1) := by decide +kernel
theorem dX12_isState_102 : decode cX12_isState 102 = .ok (.ireturn, 1) := by decide +kernel
abbrev vwCl : List vw_C := [(RX0, TX0, 7), (RX1, TX1, 15), (RX2, TX2, 4), (RX3, TX3, 4), (RX4, TX4, 3), (RX5, TX5, 11), (RX6, TX6, 2), (RX7, TX7, 15), (RX8, TX8, 6), (RX9, TX9, 11), (RX10, TX10, 7), (RX11, TX11, 11), (RX12, TX12, 69)]
