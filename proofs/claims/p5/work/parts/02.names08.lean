theorem dX11_cast_0 : decode cX11_cast 0 = .ok (.iload_n 1, 1) := by decide +kernel
theorem dX11_cast_1 : decode cX11_cast 1 = .ok (.iconst 1, 1) := by decide +kernel
theorem dX11_cast_2 : decode cX11_cast 2 = .ok (.if_icmp .lt 14, 3) := by decide +kernel
theorem dX11_cast_5 : decode cX11_cast 5 = .ok (.iload_n 1, 1) := by decide +kernel
theorem dX11_cast_6 : decode cX11_cast 6 = .ok (.iconst 5, 1) := by decide +kernel
theorem dX11_cast_7 : decode cX11_cast 7 = .ok (.if_icmp .gt 9, 3) := by decide +kernel
theorem dX11_cast_10 : decode cX11_cast 10 = .ok (.iload_n 2, 1) := by decide +kernel
theorem dX11_cast_11 : decode cX11_cast 11 = .ok (.bipush 12, 2) := by decide +kernel
theorem dX11_cast_13 : decode cX11_cast 13 = .ok (.if_icmp .le 5, 3) := by decide +kernel
theorem dX11_cast_16 : decode cX11_cast 16 = .ok (.iconst (-1), 1) := by decide +kernel
theorem dX11_cast_17 : decode cX11_cast 17 = .ok (.ireturn, 1) := by decide +kernel
theorem dX11_cast_18 : decode cX11_cast 18 = .ok (.aload_n 0, 1) := by decide +kernel
theorem dX11_cast_19 : decode cX11_cast 19 = .ok (.getfield 60, 3) := by decide +kernel
theorem dX11_cast_22 : decode cX11_cast 22 = .ok (.getfield 334, 3) := by decide +kernel
theorem dX11_cast_25 : decode cX11_cast 25 = .ok (.bipush 10, 2) := by decide +kernel
theorem dX11_cast_27 : decode cX11_cast 27 = .ok (.if_icmp .lt 6, 3) := by decide +kernel
theorem dX11_cast_30 : decode cX11_cast 30 = .ok (.bipush (-2), 2) := by decide +kernel
theorem dX11_cast_32 : decode cX11_cast 32 = .ok (.ireturn, 1) := by decide +kernel
theorem dX11_cast_33 : decode cX11_cast 33 = .ok (.iload_n 2, 1) := by decide +kernel
theorem dX11_cast_34 : decode cX11_cast 34 = .ok (.ifCond .ge 9, 3) := by decide +kernel
theorem dX11_cast_37 : decode cX11_cast 37 = .ok (.aload_n 0, 1) := by decide +kernel
theorem dX11_cast_38 : decode cX11_cast 38 = .ok (.iconst 5, 1) := by decide +kernel
theorem dX11_cast_39 : decode cX11_cast 39 = .ok (.invokevirtual 128, 3) := by decide +kernel
theorem dX11_cast_42 : decode cX11_cast 42 = .ok (.ireturn, 1) := by decide +kernel
theorem dX11_cast_43 : decode cX11_cast 43 = .ok (.aload_n 0, 1) := by decide +kernel
theorem dX11_cast_44 : decode cX11_cast 44 = .ok (.getfield 60, 3) := by decide +kernel
theorem dX11_cast_47 : decode cX11_cast 47 = .ok (.iload_n 1, 1) := by decide +kernel
theorem dX11_cast_48 : decode cX11_cast 48 = .ok (.iload_n 2, 1) := by decide +kernel
theorem dX11_cast_49 : decode cX11_cast 49 = .ok (.invokevirtual 337, 3) := by decide +kernel
theorem dX11_cast_52 : decode cX11_cast 52 = .ok (.ireturn, 1) := by decide +kernel
theorem dX11_role_0 : decode cX11_role 0 = .ok (.iload_n 1, 1) := by decide +kernel
theorem dX11_role_1 : decode cX11_role 1 = .ok (.aload_n 0, 1) := by decide +kernel
theorem dX11_role_2 : decode cX11_role 2 = .ok (.getfield 60, 3) := by decide +kernel
theorem dX11_role_5 : decode cX11_role 5 = .ok (.getfield 334, 3) := by decide +kernel
theorem dX11_role_8 : decode cX11_role 8 = .ok (.invokestatic 91, 3) := by decide +kernel
theorem dX11_role_11 : decode cX11_role 11 = .ok (.ifCond .eq 20, 3) := by decide +kernel
theorem dX11_role_14 : decode cX11_role 14 = .ok (.iload_n 3, 1) := by decide +kernel
theorem dX11_role_15 : decode cX11_role 15 = .ok (.bipush (-9), 2) := by decide +kernel
theorem dX11_role_17 : decode cX11_role 17 = .ok (.if_icmp .eq 16, 3) := by decide +kernel
theorem dX11_role_20 : decode cX11_role 20 = .ok (.aload_n 0, 1) := by decide +kernel
theorem dX11_role_21 : decode cX11_role 21 = .ok (.getfield 10, 3) := by decide +kernel
theorem dX11_role_24 : decode cX11_role 24 = .ok (.iload_n 3, 1) := by decide +kernel
theorem dX11_role_25 : decode cX11_role 25 = .ok (.invokevirtual 109, 3) := by decide +kernel
theorem dX11_role_28 : decode cX11_role 28 = .ok (.ifCond .ne 5, 3) := by decide +kernel
theorem dX11_role_31 : decode cX11_role 31 = .ok (.iconst (-1), 1) := by decide +kernel
theorem dX11_role_32 : decode cX11_role 32 = .ok (.ireturn, 1) := by decide +kernel
theorem dX11_role_33 : decode cX11_role 33 = .ok (.iload_n 3, 1) := by decide +kernel
theorem dX11_role_34 : decode cX11_role 34 = .ok (.bipush (-9), 2) := by decide +kernel
theorem dX11_role_36 : decode cX11_role 36 = .ok (.if_icmp .eq 20, 3) := by decide +kernel
theorem dX11_role_39 : decode cX11_role 39 = .ok (.aload_n 0, 1) := by decide +kernel
theorem dX11_role_40 : decode cX11_role 40 = .ok (.getfield 10, 3) := by decide +kernel
theorem dX11_role_43 : decode cX11_role 43 = .ok (.iload_n 3, 1) := by decide +kernel
theorem dX11_role_44 : decode cX11_role 44 = .ok (.invokevirtual 125, 3) := by decide +kernel
theorem dX11_role_47 : decode cX11_role 47 = .ok (.ifCond .ne 9, 3) := by decide +kernel
theorem dX11_role_50 : decode cX11_role 50 = .ok (.aload_n 0, 1) := by decide +kernel
theorem dX11_role_51 : decode cX11_role 51 = .ok (.iconst 3, 1) := by decide +kernel
theorem dX11_role_52 : decode cX11_role 52 = .ok (.invokevirtual 128, 3) := by decide +kernel
theorem dX11_role_55 : decode cX11_role 55 = .ok (.ireturn, 1) := by decide +kernel
theorem dX11_role_56 : decode cX11_role 56 = .ok (.iload_n 2, 1) := by decide +kernel
theorem dX11_role_57 : decode cX11_role 57 = .ok (.aload_n 0, 1) := by decide +kernel
theorem dX11_role_58 : decode cX11_role 58 = .ok (.getfield 60, 3) := by decide +kernel
theorem dX11_role_61 : decode cX11_role 61 = .ok (.getfield 340, 3) := by decide +kernel
theorem dX11_role_64 : decode cX11_role 64 = .ok (.iload_n 1, 1) := by decide +kernel
theorem dX11_role_65 : decode cX11_role 65 = .ok (.iaload, 1) := by decide +kernel
theorem dX11_role_66 : decode cX11_role 66 = .ok (.invokestatic 91, 3) := by decide +kernel
theorem dX11_role_69 : decode cX11_role 69 = .ok (.ifCond .ne 9, 3) := by decide +kernel
theorem dX11_role_72 : decode cX11_role 72 = .ok (.aload_n 0, 1) := by decide +kernel
theorem dX11_role_73 : decode cX11_role 73 = .ok (.iconst 2, 1) := by decide +kernel
theorem dX11_role_74 : decode cX11_role 74 = .ok (.invokevirtual 128, 3) := by decide +kernel
theorem dX11_role_77 : decode cX11_role 77 = .ok (.ireturn, 1) := by decide +kernel
theorem dX11_role_78 : decode cX11_role 78 = .ok (.iload_n 3, 1) := by decide +kernel
theorem dX11_role_79 : decode cX11_role 79 = .ok (.bipush (-9), 2) := by decide +kernel
theorem dX11_role_81 : decode cX11_role 81 = .ok (.if_icmp .eq 30, 3) := by decide +kernel
theorem dX11_role_84 : decode cX11_role 84 = .ok (.aload_n 0, 1) := by decide +kernel
theorem dX11_role_85 : decode cX11_role 85 = .ok (.getfield 10, 3) := by decide +kernel
theorem dX11_role_88 : decode cX11_role 88 = .ok (.iload_n 3, 1) := by decide +kernel
theorem dX11_role_89 : decode cX11_role 89 = .ok (.aload_n 0, 1) := by decide +kernel
theorem dX11_role_90 : decode cX11_role 90 = .ok (.getfield 60, 3) := by decide +kernel
theorem dX11_role_93 : decode cX11_role 93 = .ok (.getfield 343, 3) := by decide +kernel
theorem dX11_role_96 : decode cX11_role 96 = .ok (.iload_n 1, 1) := by decide +kernel
theorem dX11_role_97 : decode cX11_role 97 = .ok (.iaload, 1) := by decide +kernel
theorem dX11_role_98 : decode cX11_role 98 = .ok (.invokevirtual 344, 3) := by decide +kernel
theorem dX11_role_101 : decode cX11_role 101 = .ok (.ifCond .ne 10, 3) := by decide +kernel
theorem dX11_role_104 : decode cX11_role 104 = .ok (.aload_n 0, 1) := by decide +kernel
theorem dX11_role_105 : decode cX11_role 105 = .ok (.bipush 6, 2) := by decide +kernel
theorem dX11_role_107 : decode cX11_role 107 = .ok (.invokevirtual 128, 3) := by decide +kernel
theorem dX11_role_110 : decode cX11_role 110 = .ok (.ireturn, 1) := by decide +kernel
theorem dX11_role_111 : decode cX11_role 111 = .ok (.aload_n 0, 1) := by decide +kernel
theorem dX11_role_112 : decode cX11_role 112 = .ok (.getfield 60, 3) := by decide +kernel
theorem dX11_role_115 : decode cX11_role 115 = .ok (.getfield 347, 3) := by decide +kernel
theorem dX11_role_118 : decode cX11_role 118 = .ok (.iload_n 1, 1) := by decide +kernel
theorem dX11_role_119 : decode cX11_role 119 = .ok (.bipush 12, 2) := by decide +kernel
theorem dX11_role_121 : decode cX11_role 121 = .ok (.imul, 1) := by decide +kernel
theorem dX11_role_122 : decode cX11_role 122 = .ok (.iload_n 2, 1) := by decide +kernel
theorem dX11_role_123 : decode cX11_role 123 = .ok (.iadd, 1) := by decide +kernel
theorem dX11_role_124 : decode cX11_role 124 = .ok (.iload_n 3, 1) := by decide +kernel
theorem dX11_role_125 : decode cX11_role 125 = .ok (.iastore, 1) := by decide +kernel
theorem dX11_role_126 : decode cX11_role 126 = .ok (.iconst 1, 1) := by decide +kernel
theorem dX11_role_127 : decode cX11_role 127 = .ok (.ireturn, 1) := by decide +kernel
theorem dX11_who_0 : decode cX11_who 0 = .ok (.iload_n 1, 1) := by decide +kernel
theorem dX11_who_1 : decode cX11_who 1 = .ok (.aload_n 0, 1) := by decide +kernel
theorem dX11_who_2 : decode cX11_who 2 = .ok (.getfield 60, 3) := by decide +kernel
theorem dX11_who_5 : decode cX11_who 5 = .ok (.getfield 334, 3) := by decide +kernel
theorem dX11_who_8 : decode cX11_who 8 = .ok (.invokestatic 91, 3) := by decide +kernel
theorem dX11_who_11 : decode cX11_who 11 = .ok (.ifCond .ne 5, 3) := by decide +kernel
theorem dX11_who_14 : decode cX11_who 14 = .ok (.iconst (-1), 1) := by decide +kernel
theorem dX11_who_15 : decode cX11_who 15 = .ok (.ireturn, 1) := by decide +kernel
theorem dX11_who_16 : decode cX11_who 16 = .ok (.iload_n 2, 1) := by decide +kernel
theorem dX11_who_17 : decode cX11_who 17 = .ok (.aload_n 0, 1) := by decide +kernel
theorem dX11_who_18 : decode cX11_who 18 = .ok (.getfield 60, 3) := by decide +kernel
theorem dX11_who_21 : decode cX11_who 21 = .ok (.getfield 340, 3) := by decide +kernel
theorem dX11_who_24 : decode cX11_who 24 = .ok (.iload_n 1, 1) := by decide +kernel
theorem dX11_who_25 : decode cX11_who 25 = .ok (.iaload, 1) := by decide +kernel
theorem dX11_who_26 : decode cX11_who 26 = .ok (.invokestatic 91, 3) := by decide +kernel
theorem dX11_who_29 : decode cX11_who 29 = .ok (.ifCond .ne 9, 3) := by decide +kernel
theorem dX11_who_32 : decode cX11_who 32 = .ok (.aload_n 0, 1) := by decide +kernel
theorem dX11_who_33 : decode cX11_who 33 = .ok (.iconst 2, 1) := by decide +kernel
theorem dX11_who_34 : decode cX11_who 34 = .ok (.invokevirtual 128, 3) := by decide +kernel
theorem dX11_who_37 : decode cX11_who 37 = .ok (.ireturn, 1) := by decide +kernel
theorem dX11_who_38 : decode cX11_who 38 = .ok (.aload_n 0, 1) := by decide +kernel
theorem dX11_who_39 : decode cX11_who 39 = .ok (.getfield 60, 3) := by decide +kernel
theorem dX11_who_42 : decode cX11_who 42 = .ok (.getfield 347, 3) := by decide +kernel
theorem dX11_who_45 : decode cX11_who 45 = .ok (.iload_n 1, 1) := by decide +kernel
theorem dX11_who_46 : decode cX11_who 46 = .ok (.bipush 12, 2) := by decide +kernel
theorem dX11_who_48 : decode cX11_who 48 = .ok (.imul, 1) := by decide +kernel
theorem dX11_who_49 : decode cX11_who 49 = .ok (.iload_n 2, 1) := by decide +kernel
theorem dX11_who_50 : decode cX11_who 50 = .ok (.iadd, 1) := by decide +kernel
theorem dX11_who_51 : decode cX11_who 51 = .ok (.iaload, 1) := by decide +kernel
theorem dX11_who_52 : decode cX11_who 52 = .ok (.istore_n 3, 1) := by decide +kernel
theorem dX11_who_53 : decode cX11_who 53 = .ok (.iload_n 3, 1) := by decide +kernel
theorem dX11_who_54 : decode cX11_who 54 = .ok (.bipush (-9), 2) := by decide +kernel
theorem dX11_who_56 : decode cX11_who 56 = .ok (.if_icmp .ne 11, 3) := by decide +kernel
theorem dX11_who_59 : decode cX11_who 59 = .ok (.aload_n 0, 1) := by decide +kernel
theorem dX11_who_60 : decode cX11_who 60 = .ok (.iconst 1, 1) := by decide +kernel
theorem dX11_who_61 : decode cX11_who 61 = .ok (.invokevirtual 128, 3) := by decide +kernel
theorem dX11_who_64 : decode cX11_who 64 = .ok (.goto 4, 3) := by decide +kernel
theorem dX11_who_67 : decode cX11_who 67 = .ok (.iload_n 3, 1) := by decide +kernel
theorem dX11_who_68 : decode cX11_who 68 = .ok (.ireturn, 1) := by decide +kernel
theorem dX11_count_0 : decode cX11_count 0 = .ok (.iload_n 1, 1) := by decide +kernel
theorem dX11_count_1 : decode cX11_count 1 = .ok (.tableswitch 154 0 7 #[47, 57, 67, 77, 87, 97, 107, 132], 47) := by decide +kernel
theorem dX11_count_48 : decode cX11_count 48 = .ok (.aload_n 0, 1) := by decide +kernel
theorem dX11_count_49 : decode cX11_count 49 = .ok (.getfield 10, 3) := by decide +kernel
theorem dX11_count_52 : decode cX11_count 52 = .ok (.getfield 84, 3) := by decide +kernel
theorem dX11_count_55 : decode cX11_count 55 = .ok (.goto 101, 3) := by decide +kernel
theorem dX11_count_58 : decode cX11_count 58 = .ok (.aload_n 0, 1) := by decide +kernel
theorem dX11_count_59 : decode cX11_count 59 = .ok (.getfield 10, 3) := by decide +kernel
theorem dX11_count_62 : decode cX11_count 62 = .ok (.getfield 102, 3) := by decide +kernel
theorem dX11_count_65 : decode cX11_count 65 = .ok (.goto 91, 3) := by decide +kernel
theorem dX11_count_68 : decode cX11_count 68 = .ok (.aload_n 0, 1) := by decide +kernel
theorem dX11_count_69 : decode cX11_count 69 = .ok (.getfield 21, 3) := by decide +kernel
theorem dX11_count_72 : decode cX11_count 72 = .ok (.getfield 191, 3) := by decide +kernel
theorem dX11_count_75 : decode cX11_count 75 = .ok (.goto 81, 3) := by decide +kernel
theorem dX11_count_78 : decode cX11_count 78 = .ok (.aload_n 0, 1) := by decide +kernel
theorem dX11_count_79 : decode cX11_count 79 = .ok (.getfield 21, 3) := by decide +kernel
theorem dX11_count_82 : decode cX11_count 82 = .ok (.getfield 168, 3) := by decide +kernel
theorem dX11_count_85 : decode cX11_count 85 = .ok (.goto 71, 3) := by decide +kernel
theorem dX11_count_88 : decode cX11_count 88 = .ok (.aload_n 0, 1) := by decide +kernel
theorem dX11_count_89 : decode cX11_count 89 = .ok (.getfield 60, 3) := by decide +kernel
theorem dX11_count_92 : decode cX11_count 92 = .ok (.getfield 334, 3) := by decide +kernel
theorem dX11_count_95 : decode cX11_count 95 = .ok (.goto 61, 3) := by decide +kernel
theorem dX11_count_98 : decode cX11_count 98 = .ok (.aload_n 0, 1) := by decide +kernel
theorem dX11_count_99 : decode cX11_count 99 = .ok (.getfield 46, 3) := by decide +kernel
theorem dX11_count_102 : decode cX11_count 102 = .ok (.getfield 254, 3) := by decide +kernel
theorem dX11_count_105 : decode cX11_count 105 = .ok (.goto 51, 3) := by decide +kernel
theorem dX11_count_108 : decode cX11_count 108 = .ok (.aload_n 0, 1) := by decide +kernel
theorem dX11_count_109 : decode cX11_count 109 = .ok (.getfield 46, 3) := by decide +kernel
theorem dX11_count_112 : decode cX11_count 112 = .ok (.getfield 257, 3) := by decide +kernel
theorem dX11_count_115 : decode cX11_count 115 = .ok (.ifCond .eq 13, 3) := by decide +kernel
theorem dX11_count_118 : decode cX11_count 118 = .ok (.aload_n 0, 1) := by decide +kernel
theorem dX11_count_119 : decode cX11_count 119 = .ok (.getfield 46, 3) := by decide +kernel
theorem dX11_count_122 : decode cX11_count 122 = .ok (.getfield 289, 3) := by decide +kernel
theorem dX11_count_125 : decode cX11_count 125 = .ok (.goto 31, 3) := by decide +kernel
theorem dX11_count_128 : decode cX11_count 128 = .ok (.bipush (-9), 2) := by decide +kernel
theorem dX11_count_130 : decode cX11_count 130 = .ok (.goto 26, 3) := by decide +kernel
theorem dX11_count_133 : decode cX11_count 133 = .ok (.aload_n 0, 1) := by decide +kernel
theorem dX11_count_134 : decode cX11_count 134 = .ok (.getfield 64, 3) := by decide +kernel
theorem dX11_count_137 : decode cX11_count 137 = .ok (.ifnonnull 8, 3) := by decide +kernel
theorem dX11_count_140 : decode cX11_count 140 = .ok (.bipush (-9), 2) := by decide +kernel
theorem dX11_count_142 : decode cX11_count 142 = .ok (.goto 14, 3) := by decide +kernel
theorem dX11_count_145 : decode cX11_count 145 = .ok (.aload_n 0, 1) := by decide +kernel
theorem dX11_count_146 : decode cX11_count 146 = .ok (.getfield 64, 3) := by decide +kernel
theorem dX11_count_149 : decode cX11_count 149 = .ok (.getfield 299, 3) := by decide +kernel
theorem dX11_count_152 : decode cX11_count 152 = .ok (.goto 4, 3) := by decide +kernel
theorem dX11_count_155 : decode cX11_count 155 = .ok (.iconst (-1), 1) := by decide +kernel
theorem dX11_count_156 : decode cX11_count 156 = .ok (.ireturn, 1) := by decide +kernel
theorem dX11_finding_0 : decode cX11_finding 0 = .ok (.aload_n 0, 1) := by decide +kernel
theorem dX11_finding_1 : decode cX11_finding 1 = .ok (.getfield 72, 3) := by decide +kernel
theorem dX11_finding_4 : decode cX11_finding 4 = .ok (.ireturn, 1) := by decide +kernel
theorem dX11_findings_0 : decode cX11_findings 0 = .ok (.iload_n 1, 1) := by decide +kernel
theorem dX11_findings_1 : decode cX11_findings 1 = .ok (.iconst 1, 1) := by decide +kernel
theorem dX11_findings_2 : decode cX11_findings 2 = .ok (.if_icmp .lt 9, 3) := by decide +kernel
theorem dX11_findings_5 : decode cX11_findings 5 = .ok (.iload_n 1, 1) := by decide +kernel
theorem dX11_findings_6 : decode cX11_findings 6 = .ok (.bipush 6, 2) := by decide +kernel
theorem dX11_findings_8 : decode cX11_findings 8 = .ok (.if_icmp .le 7, 3) := by decide +kernel
theorem dX11_findings_11 : decode cX11_findings 11 = .ok (.iconst (-1), 1) := by decide +kernel
theorem dX11_findings_12 : decode cX11_findings 12 = .ok (.goto 9, 3) := by decide +kernel
theorem dX11_findings_15 : decode cX11_findings 15 = .ok (.aload_n 0, 1) := by decide +kernel
theorem dX11_findings_16 : decode cX11_findings 16 = .ok (.getfield 68, 3) := by decide +kernel
theorem dX11_findings_19 : decode cX11_findings 19 = .ok (.iload_n 1, 1) := by decide +kernel
theorem dX11_findings_20 : decode cX11_findings 20 = .ok (.iaload, 1) := by decide +kernel
theorem dX11_findings_21 : decode cX11_findings 21 = .ok (.ireturn, 1) := by decide +kernel
theorem dX11_digest_0 : decode cX11_digest 0 = .ok (.aload_n 0, 1) := by decide +kernel
theorem dX11_digest_1 : decode cX11_digest 1 = .ok (.aload_n 0, 1) := by decide +kernel
theorem dX11_digest_2 : decode cX11_digest 2 = .ok (.aload_n 0, 1) := by decide +kernel
theorem dX11_digest_3 : decode cX11_digest 3 = .ok (.ldc2_w 350, 3) := by decide +kernel
theorem dX11_digest_6 : decode cX11_digest 6 = .ok (.invokevirtual 352, 3) := by decide +kernel
theorem dX11_digest_9 : decode cX11_digest 9 = .ok (.invokevirtual 356, 3) := by decide +kernel
theorem dX11_digest_12 : decode cX11_digest 12 = .ok (.invokevirtual 359, 3) := by decide +kernel
theorem dX11_digest_15 : decode cX11_digest 15 = .ok (.lreturn, 1) := by decide +kernel
theorem dX11_digestKinds_0 : decode cX11_digestKinds 0 = .ok (.lload_n 1, 1) := by decide +kernel
theorem dX11_digestKinds_1 : decode cX11_digestKinds 1 = .ok (.lstore_n 3, 1) := by decide +kernel
theorem dX11_digestKinds_2 : decode cX11_digestKinds 2 = .ok (.iconst 0, 1) := by decide +kernel
theorem dX11_digestKinds_3 : decode cX11_digestKinds 3 = .ok (.istore 5, 2) := by decide +kernel
theorem dX11_digestKinds_5 : decode cX11_digestKinds 5 = .ok (.iload 5, 2) := by decide +kernel
theorem dX11_digestKinds_7 : decode cX11_digestKinds 7 = .ok (.aload_n 0, 1) := by decide +kernel
theorem dX11_digestKinds_8 : decode cX11_digestKinds 8 = .ok (.getfield 10, 3) := by decide +kernel
theorem dX11_digestKinds_11 : decode cX11_digestKinds 11 = .ok (.getfield 84, 3) := by decide +kernel
theorem dX11_digestKinds_14 : decode cX11_digestKinds 14 = .ok (.if_icmp .ge 67, 3) := by decide +kernel
theorem dX11_digestKinds_17 : decode cX11_digestKinds 17 = .ok (.ldc2_w 362, 3) := by decide +kernel
theorem dX11_digestKinds_20 : decode cX11_digestKinds 20 = .ok (.lload_n 3, 1) := by decide +kernel
theorem dX11_digestKinds_21 : decode cX11_digestKinds 21 = .ok (.lmul, 1) := by decide +kernel
theorem dX11_digestKinds_22 : decode cX11_digestKinds 22 = .ok (.aload_n 0, 1) := by decide +kernel
theorem dX11_digestKinds_23 : decode cX11_digestKinds 23 = .ok (.getfield 10, 3) := by decide +kernel
theorem dX11_digestKinds_26 : decode cX11_digestKinds 26 = .ok (.getfield 364, 3) := by decide +kernel
theorem dX11_digestKinds_29 : decode cX11_digestKinds 29 = .ok (.iload 5, 2) := by decide +kernel
theorem dX11_digestKinds_31 : decode cX11_digestKinds 31 = .ok (.iaload, 1) := by decide +kernel
theorem dX11_digestKinds_32 : decode cX11_digestKinds 32 = .ok (.i2l, 1) := by decide +kernel
theorem dX11_digestKinds_33 : decode cX11_digestKinds 33 = .ok (.ladd, 1) := by decide +kernel
theorem dX11_digestKinds_34 : decode cX11_digestKinds 34 = .ok (.lstore_n 3, 1) := by decide +kernel
theorem dX11_digestKinds_35 : decode cX11_digestKinds 35 = .ok (.iconst 0, 1) := by decide +kernel
theorem dX11_digestKinds_36 : decode cX11_digestKinds 36 = .ok (.istore 6, 2) := by decide +kernel
theorem dX11_digestKinds_38 : decode cX11_digestKinds 38 = .ok (.iload 6, 2) := by decide +kernel
theorem dX11_digestKinds_40 : decode cX11_digestKinds 40 = .ok (.bipush 6, 2) := by decide +kernel
theorem dX11_digestKinds_42 : decode cX11_digestKinds 42 = .ok (.if_icmp .ge 33, 3) := by decide +kernel
theorem dX11_digestKinds_45 : decode cX11_digestKinds 45 = .ok (.ldc2_w 362, 3) := by decide +kernel
theorem dX11_digestKinds_48 : decode cX11_digestKinds 48 = .ok (.lload_n 3, 1) := by decide +kernel
theorem dX11_digestKinds_49 : decode cX11_digestKinds 49 = .ok (.lmul, 1) := by decide +kernel
theorem dX11_digestKinds_50 : decode cX11_digestKinds 50 = .ok (.aload_n 0, 1) := by decide +kernel
theorem dX11_digestKinds_51 : decode cX11_digestKinds 51 = .ok (.getfield 10, 3) := by decide +kernel
theorem dX11_digestKinds_54 : decode cX11_digestKinds 54 = .ok (.getfield 367, 3) := by decide +kernel
theorem dX11_digestKinds_57 : decode cX11_digestKinds 57 = .ok (.iload 5, 2) := by decide +kernel
theorem dX11_digestKinds_59 : decode cX11_digestKinds 59 = .ok (.bipush 6, 2) := by decide +kernel
theorem dX11_digestKinds_61 : decode cX11_digestKinds 61 = .ok (.imul, 1) := by decide +kernel
theorem dX11_digestKinds_62 : decode cX11_digestKinds 62 = .ok (.iload 6, 2) := by decide +kernel
theorem dX11_digestKinds_64 : decode cX11_digestKinds 64 = .ok (.iadd, 1) := by decide +kernel
theorem dX11_digestKinds_65 : decode cX11_digestKinds 65 = .ok (.iaload, 1) := by decide +kernel
theorem dX11_digestKinds_66 : decode cX11_digestKinds 66 = .ok (.i2l, 1) := by decide +kernel
theorem dX11_digestKinds_67 : decode cX11_digestKinds 67 = .ok (.ladd, 1) := by decide +kernel
theorem dX11_digestKinds_68 : decode cX11_digestKinds 68 = .ok (.lstore_n 3, 1) := by decide +kernel
theorem dX11_digestKinds_69 : decode cX11_digestKinds 69 = .ok (.iinc 6 1, 3) := by decide +kernel
theorem dX11_digestKinds_72 : decode cX11_digestKinds 72 = .ok (.goto (-34), 3) := by decide +kernel
theorem dX11_digestKinds_75 : decode cX11_digestKinds 75 = .ok (.iinc 5 1, 3) := by decide +kernel
theorem dX11_digestKinds_78 : decode cX11_digestKinds 78 = .ok (.goto (-73), 3) := by decide +kernel
theorem dX11_digestKinds_81 : decode cX11_digestKinds 81 = .ok (.lload_n 3, 1) := by decide +kernel
theorem dX11_digestKinds_82 : decode cX11_digestKinds 82 = .ok (.lreturn, 1) := by decide +kernel
theorem dX11_digestObjects_0 : decode cX11_digestObjects 0 = .ok (.lload_n 1, 1) := by decide +kernel
theorem dX11_digestObjects_1 : decode cX11_digestObjects 1 = .ok (.lstore_n 3, 1) := by decide +kernel
theorem dX11_digestObjects_2 : decode cX11_digestObjects 2 = .ok (.iconst 0, 1) := by decide +kernel
theorem dX11_digestObjects_3 : decode cX11_digestObjects 3 = .ok (.istore 5, 2) := by decide +kernel
theorem dX11_digestObjects_5 : decode cX11_digestObjects 5 = .ok (.iload 5, 2) := by decide +kernel
theorem dX11_digestObjects_7 : decode cX11_digestObjects 7 = .ok (.aload_n 0, 1) := by decide +kernel
theorem dX11_digestObjects_8 : decode cX11_digestObjects 8 = .ok (.getfield 10, 3) := by decide +kernel
theorem dX11_digestObjects_11 : decode cX11_digestObjects 11 = .ok (.getfield 102, 3) := by decide +kernel
theorem dX11_digestObjects_14 : decode cX11_digestObjects 14 = .ok (.if_icmp .ge 130, 3) := by decide +kernel
theorem dX11_digestObjects_17 : decode cX11_digestObjects 17 = .ok (.ldc2_w 362, 3) := by decide +kernel
theorem dX11_digestObjects_20 : decode cX11_digestObjects 20 = .ok (.lload_n 3, 1) := by decide +kernel
theorem dX11_digestObjects_21 : decode cX11_digestObjects 21 = .ok (.lmul, 1) := by decide +kernel
theorem dX11_digestObjects_22 : decode cX11_digestObjects 22 = .ok (.aload_n 0, 1) := by decide +kernel
theorem dX11_digestObjects_23 : decode cX11_digestObjects 23 = .ok (.getfield 10, 3) := by decide +kernel
theorem dX11_digestObjects_26 : decode cX11_digestObjects 26 = .ok (.getfield 112, 3) := by decide +kernel
theorem dX11_digestObjects_29 : decode cX11_digestObjects 29 = .ok (.iload 5, 2) := by decide +kernel
theorem dX11_digestObjects_31 : decode cX11_digestObjects 31 = .ok (.iaload, 1) := by decide +kernel
theorem dX11_digestObjects_32 : decode cX11_digestObjects 32 = .ok (.i2l, 1) := by decide +kernel
theorem dX11_digestObjects_33 : decode cX11_digestObjects 33 = .ok (.ladd, 1) := by decide +kernel
theorem dX11_digestObjects_34 : decode cX11_digestObjects 34 = .ok (.lstore_n 3, 1) := by decide +kernel
theorem dX11_digestObjects_35 : decode cX11_digestObjects 35 = .ok (.ldc2_w 362, 3) := by decide +kernel
theorem dX11_digestObjects_38 : decode cX11_digestObjects 38 = .ok (.lload_n 3, 1) := by decide +kernel
theorem dX11_digestObjects_39 : decode cX11_digestObjects 39 = .ok (.lmul, 1) := by decide +kernel
theorem dX11_digestObjects_40 : decode cX11_digestObjects 40 = .ok (.aload_n 0, 1) := by decide +kernel
theorem dX11_digestObjects_41 : decode cX11_digestObjects 41 = .ok (.getfield 10, 3) := by decide +kernel
theorem dX11_digestObjects_44 : decode cX11_digestObjects 44 = .ok (.getfield 370, 3) := by decide +kernel
theorem dX11_digestObjects_47 : decode cX11_digestObjects 47 = .ok (.iload 5, 2) := by decide +kernel
theorem dX11_digestObjects_49 : decode cX11_digestObjects 49 = .ok (.iaload, 1) := by decide +kernel
theorem dX11_digestObjects_50 : decode cX11_digestObjects 50 = .ok (.i2l, 1) := by decide +kernel
theorem dX11_digestObjects_51 : decode cX11_digestObjects 51 = .ok (.ladd, 1) := by decide +kernel
theorem dX11_digestObjects_52 : decode cX11_digestObjects 52 = .ok (.lstore_n 3, 1) := by decide +kernel
theorem dX11_digestObjects_53 : decode cX11_digestObjects 53 = .ok (.ldc2_w 362, 3) := by decide +kernel
theorem dX11_digestObjects_56 : decode cX11_digestObjects 56 = .ok (.lload_n 3, 1) := by decide +kernel
theorem dX11_digestObjects_57 : decode cX11_digestObjects 57 = .ok (.lmul, 1) := by decide +kernel
theorem dX11_digestObjects_58 : decode cX11_digestObjects 58 = .ok (.aload_n 0, 1) := by decide +kernel
theorem dX11_digestObjects_59 : decode cX11_digestObjects 59 = .ok (.getfield 21, 3) := by decide +kernel
theorem dX11_digestObjects_62 : decode cX11_digestObjects 62 = .ok (.getfield 203, 3) := by decide +kernel
theorem dX11_digestObjects_65 : decode cX11_digestObjects 65 = .ok (.iload 5, 2) := by decide +kernel
theorem dX11_digestObjects_67 : decode cX11_digestObjects 67 = .ok (.invokevirtual 206, 3) := by decide +kernel
theorem dX11_digestObjects_70 : decode cX11_digestObjects 70 = .ok (.i2l, 1) := by decide +kernel
theorem dX11_digestObjects_71 : decode cX11_digestObjects 71 = .ok (.ladd, 1) := by decide +kernel
theorem dX11_digestObjects_72 : decode cX11_digestObjects 72 = .ok (.lstore_n 3, 1) := by decide +kernel
theorem dX11_digestObjects_73 : decode cX11_digestObjects 73 = .ok (.ldc2_w 362, 3) := by decide +kernel
theorem dX11_digestObjects_76 : decode cX11_digestObjects 76 = .ok (.lload_n 3, 1) := by decide +kernel
theorem dX11_digestObjects_77 : decode cX11_digestObjects 77 = .ok (.lmul, 1) := by decide +kernel
theorem dX11_digestObjects_78 : decode cX11_digestObjects 78 = .ok (.aload_n 0, 1) := by decide +kernel
theorem dX11_digestObjects_79 : decode cX11_digestObjects 79 = .ok (.getfield 21, 3) := by decide +kernel
theorem dX11_digestObjects_82 : decode cX11_digestObjects 82 = .ok (.getfield 203, 3) := by decide +kernel
theorem dX11_digestObjects_85 : decode cX11_digestObjects 85 = .ok (.iload 5, 2) := by decide +kernel
theorem dX11_digestObjects_87 : decode cX11_digestObjects 87 = .ok (.invokevirtual 211, 3) := by decide +kernel
theorem dX11_digestObjects_90 : decode cX11_digestObjects 90 = .ok (.i2l, 1) := by decide +kernel
theorem dX11_digestObjects_91 : decode cX11_digestObjects 91 = .ok (.ladd, 1) := by decide +kernel
theorem dX11_digestObjects_92 : decode cX11_digestObjects 92 = .ok (.lstore_n 3, 1) := by decide +kernel
theorem dX11_digestObjects_93 : decode cX11_digestObjects 93 = .ok (.iconst 0, 1) := by decide +kernel
theorem dX11_digestObjects_94 : decode cX11_digestObjects 94 = .ok (.istore 6, 2) := by decide +kernel
theorem dX11_digestObjects_96 : decode cX11_digestObjects 96 = .ok (.aload_n 0, 1) := by decide +kernel
theorem dX11_digestObjects_97 : decode cX11_digestObjects 97 = .ok (.getfield 46, 3) := by decide +kernel
theorem dX11_digestObjects_100 : decode cX11_digestObjects 100 = .ok (.getfield 257, 3) := by decide +kernel
theorem dX11_digestObjects_103 : decode cX11_digestObjects 103 = .ok (.ifCond .eq 35, 3) := by decide +kernel
theorem dX11_digestObjects_106 : decode cX11_digestObjects 106 = .ok (.iload 6, 2) := by decide +kernel
theorem dX11_digestObjects_108 : decode cX11_digestObjects 108 = .ok (.bipush 6, 2) := by decide +kernel
theorem dX11_digestObjects_110 : decode cX11_digestObjects 110 = .ok (.if_icmp .ge 28, 3) := by decide +kernel
theorem dX11_digestObjects_113 : decode cX11_digestObjects 113 = .ok (.ldc2_w 362, 3) := by decide +kernel
theorem dX11_digestObjects_116 : decode cX11_digestObjects 116 = .ok (.lload_n 3, 1) := by decide +kernel
theorem dX11_digestObjects_117 : decode cX11_digestObjects 117 = .ok (.lmul, 1) := by decide +kernel
theorem dX11_digestObjects_118 : decode cX11_digestObjects 118 = .ok (.aload_n 0, 1) := by decide +kernel
theorem dX11_digestObjects_119 : decode cX11_digestObjects 119 = .ok (.getfield 46, 3) := by decide +kernel
theorem dX11_digestObjects_122 : decode cX11_digestObjects 122 = .ok (.iload 5, 2) := by decide +kernel
theorem dX11_digestObjects_124 : decode cX11_digestObjects 124 = .ok (.iload 6, 2) := by decide +kernel
theorem dX11_digestObjects_126 : decode cX11_digestObjects 126 = .ok (.invokevirtual 267, 3) := by decide +kernel
theorem dX11_digestObjects_129 : decode cX11_digestObjects 129 = .ok (.i2l, 1) := by decide +kernel
theorem dX11_digestObjects_130 : decode cX11_digestObjects 130 = .ok (.ladd, 1) := by decide +kernel
theorem dX11_digestObjects_131 : decode cX11_digestObjects 131 = .ok (.lstore_n 3, 1) := by decide +kernel
theorem dX11_digestObjects_132 : decode cX11_digestObjects 132 = .ok (.iinc 6 1, 3) := by decide +kernel
theorem dX11_digestObjects_135 : decode cX11_digestObjects 135 = .ok (.goto (-39), 3) := by decide +kernel
theorem dX11_digestObjects_138 : decode cX11_digestObjects 138 = .ok (.iinc 5 1, 3) := by decide +kernel
theorem dX11_digestObjects_141 : decode cX11_digestObjects 141 = .ok (.goto (-136), 3) := by decide +kernel
theorem dX11_digestObjects_144 : decode cX11_digestObjects 144 = .ok (.lload_n 3, 1) := by decide +kernel
theorem dX11_digestObjects_145 : decode cX11_digestObjects 145 = .ok (.lreturn, 1) := by decide +kernel
theorem dX11_digestSentences_0 : decode cX11_digestSentences 0 = .ok (.lload_n 1, 1) := by decide +kernel
theorem dX11_digestSentences_1 : decode cX11_digestSentences 1 = .ok (.lstore_n 3, 1) := by decide +kernel
theorem dX11_digestSentences_2 : decode cX11_digestSentences 2 = .ok (.iconst 0, 1) := by decide +kernel
theorem dX11_digestSentences_3 : decode cX11_digestSentences 3 = .ok (.istore 5, 2) := by decide +kernel
theorem dX11_digestSentences_5 : decode cX11_digestSentences 5 = .ok (.iload 5, 2) := by decide +kernel
theorem dX11_digestSentences_7 : decode cX11_digestSentences 7 = .ok (.aload_n 0, 1) := by decide +kernel
theorem dX11_digestSentences_8 : decode cX11_digestSentences 8 = .ok (.getfield 21, 3) := by decide +kernel
theorem dX11_digestSentences_11 : decode cX11_digestSentences 11 = .ok (.getfield 168, 3) := by decide +kernel
theorem dX11_digestSentences_14 : decode cX11_digestSentences 14 = .ok (.if_icmp .ge 43, 3) := by decide +kernel
theorem dX11_digestSentences_17 : decode cX11_digestSentences 17 = .ok (.iconst 0, 1) := by decide +kernel
theorem dX11_digestSentences_18 : decode cX11_digestSentences 18 = .ok (.istore 6, 2) := by decide +kernel
theorem dX11_digestSentences_20 : decode cX11_digestSentences 20 = .ok (.iload 6, 2) := by decide +kernel
theorem dX11_digestSentences_22 : decode cX11_digestSentences 22 = .ok (.iconst 5, 1) := by decide +kernel
theorem dX11_digestSentences_23 : decode cX11_digestSentences 23 = .ok (.if_icmp .ge 28, 3) := by decide +kernel
theorem dX11_digestSentences_26 : decode cX11_digestSentences 26 = .ok (.ldc2_w 362, 3) := by decide +kernel
theorem dX11_digestSentences_29 : decode cX11_digestSentences 29 = .ok (.lload_n 3, 1) := by decide +kernel
theorem dX11_digestSentences_30 : decode cX11_digestSentences 30 = .ok (.lmul, 1) := by decide +kernel
theorem dX11_digestSentences_31 : decode cX11_digestSentences 31 = .ok (.aload_n 0, 1) := by decide +kernel
theorem dX11_digestSentences_32 : decode cX11_digestSentences 32 = .ok (.getfield 21, 3) := by decide +kernel
theorem dX11_digestSentences_35 : decode cX11_digestSentences 35 = .ok (.iload 5, 2) := by decide +kernel
theorem dX11_digestSentences_37 : decode cX11_digestSentences 37 = .ok (.iload 6, 2) := by decide +kernel
theorem dX11_digestSentences_39 : decode cX11_digestSentences 39 = .ok (.invokevirtual 200, 3) := by decide +kernel
theorem dX11_digestSentences_42 : decode cX11_digestSentences 42 = .ok (.i2l, 1) := by decide +kernel
theorem dX11_digestSentences_43 : decode cX11_digestSentences 43 = .ok (.ladd, 1) := by decide +kernel
theorem dX11_digestSentences_44 : decode cX11_digestSentences 44 = .ok (.lstore_n 3, 1) := by decide +kernel
theorem dX11_digestSentences_45 : decode cX11_digestSentences 45 = .ok (.iinc 6 1, 3) := by decide +kernel
theorem dX11_digestSentences_48 : decode cX11_digestSentences 48 = .ok (.goto (-28), 3) := by decide +kernel
theorem dX11_digestSentences_51 : decode cX11_digestSentences 51 = .ok (.iinc 5 1, 3) := by decide +kernel
theorem dX11_digestSentences_54 : decode cX11_digestSentences 54 = .ok (.goto (-49), 3) := by decide +kernel
theorem dX11_digestSentences_57 : decode cX11_digestSentences 57 = .ok (.lload_n 3, 1) := by decide +kernel
theorem dX11_digestSentences_58 : decode cX11_digestSentences 58 = .ok (.lreturn, 1) := by decide +kernel
theorem dX11_answerFinding_0 : decode cX11_answerFinding 0 = .ok (.aload_n 0, 1) := by decide +kernel
theorem dX11_answerFinding_1 : decode cX11_answerFinding 1 = .ok (.iload_n 1, 1) := by decide +kernel
theorem dX11_answerFinding_2 : decode cX11_answerFinding 2 = .ok (.putfield 72, 3) := by decide +kernel
theorem dX11_answerFinding_5 : decode cX11_answerFinding 5 = .ok (.aload_n 0, 1) := by decide +kernel
theorem dX11_answerFinding_6 : decode cX11_answerFinding 6 = .ok (.getfield 68, 3) := by decide +kernel
theorem dX11_answerFinding_9 : decode cX11_answerFinding 9 = .ok (.iload_n 1, 1) := by decide +kernel
theorem dX11_answerFinding_10 : decode cX11_answerFinding 10 = .ok (.dup2, 1) := by decide +kernel
theorem dX11_answerFinding_11 : decode cX11_answerFinding 11 = .ok (.iaload, 1) := by decide +kernel
theorem dX11_answerFinding_12 : decode cX11_answerFinding 12 = .ok (.iconst 1, 1) := by decide +kernel
theorem dX11_answerFinding_13 : decode cX11_answerFinding 13 = .ok (.iadd, 1) := by decide +kernel
theorem dX11_answerFinding_14 : decode cX11_answerFinding 14 = .ok (.iastore, 1) := by decide +kernel
theorem dX11_answerFinding_15 : decode cX11_answerFinding 15 = .ok (.bipush (-3), 2) := by decide +kernel
theorem dX11_answerFinding_17 : decode cX11_answerFinding 17 = .ok (.ireturn, 1) := by decide +kernel
theorem dX11_places_0 : decode cX11_places 0 = .ok (.aload_n 0, 1) := by decide +kernel
theorem dX11_places_1 : decode cX11_places 1 = .ok (.getfield 46, 3) := by decide +kernel
theorem dX11_places_4 : decode cX11_places 4 = .ok (.getfield 257, 3) := by decide +kernel
theorem dX11_places_7 : decode cX11_places 7 = .ok (.ifCond .eq 13, 3) := by decide +kernel
theorem dX11_places_10 : decode cX11_places 10 = .ok (.aload_n 0, 1) := by decide +kernel
theorem dX11_places_11 : decode cX11_places 11 = .ok (.getfield 46, 3) := by decide +kernel
theorem dX11_places_14 : decode cX11_places 14 = .ok (.getfield 286, 3) := by decide +kernel
theorem dX11_places_17 : decode cX11_places 17 = .ok (.goto 10, 3) := by decide +kernel
theorem dX11_places_20 : decode cX11_places 20 = .ok (.aload_n 0, 1) := by decide +kernel
theorem dX11_places_21 : decode cX11_places 21 = .ok (.getfield 21, 3) := by decide +kernel
theorem dX11_places_24 : decode cX11_places 24 = .ok (.getfield 203, 3) := by decide +kernel
theorem dX11_places_27 : decode cX11_places 27 = .ok (.areturn, 1) := by decide +kernel
theorem dX11_refuseRooms_0 : decode cX11_refuseRooms 0 = .ok (.aload_n 0, 1) := by decide +kernel
theorem dX11_refuseRooms_1 : decode cX11_refuseRooms 1 = .ok (.getfield 10, 3) := by decide +kernel
theorem dX11_refuseRooms_4 : decode cX11_refuseRooms 4 = .ok (.iload_n 1, 1) := by decide +kernel
theorem dX11_refuseRooms_5 : decode cX11_refuseRooms 5 = .ok (.invokevirtual 109, 3) := by decide +kernel
theorem dX11_refuseRooms_8 : decode cX11_refuseRooms 8 = .ok (.ifCond .eq 14, 3) := by decide +kernel
theorem dX11_refuseRooms_11 : decode cX11_refuseRooms 11 = .ok (.aload_n 0, 1) := by decide +kernel
theorem dX11_refuseRooms_12 : decode cX11_refuseRooms 12 = .ok (.getfield 10, 3) := by decide +kernel
theorem dX11_refuseRooms_15 : decode cX11_refuseRooms 15 = .ok (.iload_n 2, 1) := by decide +kernel
theorem dX11_refuseRooms_16 : decode cX11_refuseRooms 16 = .ok (.invokevirtual 109, 3) := by decide +kernel
theorem dX11_refuseRooms_19 : decode cX11_refuseRooms 19 = .ok (.ifCond .ne 5, 3) := by decide +kernel
theorem dX11_refuseRooms_22 : decode cX11_refuseRooms 22 = .ok (.iconst (-1), 1) := by decide +kernel
theorem dX11_refuseRooms_23 : decode cX11_refuseRooms 23 = .ok (.ireturn, 1) := by decide +kernel
theorem dX11_refuseRooms_24 : decode cX11_refuseRooms 24 = .ok (.aload_n 0, 1) := by decide +kernel
theorem dX11_refuseRooms_25 : decode cX11_refuseRooms 25 = .ok (.getfield 10, 3) := by decide +kernel
theorem dX11_refuseRooms_28 : decode cX11_refuseRooms 28 = .ok (.iload_n 1, 1) := by decide +kernel
theorem dX11_refuseRooms_29 : decode cX11_refuseRooms 29 = .ok (.invokevirtual 125, 3) := by decide +kernel
theorem dX11_refuseRooms_32 : decode cX11_refuseRooms 32 = .ok (.ifCond .ne 14, 3) := by decide +kernel
theorem dX11_refuseRooms_35 : decode cX11_refuseRooms 35 = .ok (.aload_n 0, 1) := by decide +kernel
theorem dX11_refuseRooms_36 : decode cX11_refuseRooms 36 = .ok (.getfield 10, 3) := by decide +kernel
theorem dX11_refuseRooms_39 : decode cX11_refuseRooms 39 = .ok (.iload_n 2, 1) := by decide +kernel
theorem dX11_refuseRooms_40 : decode cX11_refuseRooms 40 = .ok (.invokevirtual 125, 3) := by decide +kernel
theorem dX11_refuseRooms_43 : decode cX11_refuseRooms 43 = .ok (.ifCond .eq 9, 3) := by decide +kernel
theorem dX11_refuseRooms_46 : decode cX11_refuseRooms 46 = .ok (.aload_n 0, 1) := by decide +kernel
theorem dX11_refuseRooms_47 : decode cX11_refuseRooms 47 = .ok (.iconst 3, 1) := by decide +kernel
theorem dX11_refuseRooms_48 : decode cX11_refuseRooms 48 = .ok (.invokevirtual 128, 3) := by decide +kernel
theorem dX11_refuseRooms_51 : decode cX11_refuseRooms 51 = .ok (.ireturn, 1) := by decide +kernel
theorem dX11_refuseRooms_52 : decode cX11_refuseRooms 52 = .ok (.iconst 0, 1) := by decide +kernel
theorem dX11_refuseRooms_53 : decode cX11_refuseRooms 53 = .ok (.ireturn, 1) := by decide +kernel
theorem dX11_refuseItem_0 : decode cX11_refuseItem 0 = .ok (.aload_n 0, 1) := by decide +kernel
theorem dX11_refuseItem_1 : decode cX11_refuseItem 1 = .ok (.getfield 10, 3) := by decide +kernel
theorem dX11_refuseItem_4 : decode cX11_refuseItem 4 = .ok (.iload_n 1, 1) := by decide +kernel
theorem dX11_refuseItem_5 : decode cX11_refuseItem 5 = .ok (.invokevirtual 109, 3) := by decide +kernel
theorem dX11_refuseItem_8 : decode cX11_refuseItem 8 = .ok (.ifCond .eq 11, 3) := by decide +kernel
theorem dX11_refuseItem_11 : decode cX11_refuseItem 11 = .ok (.iload_n 2, 1) := by decide +kernel
theorem dX11_refuseItem_12 : decode cX11_refuseItem 12 = .ok (.iconst 4, 1) := by decide +kernel
theorem dX11_refuseItem_13 : decode cX11_refuseItem 13 = .ok (.invokestatic 91, 3) := by decide +kernel
theorem dX11_refuseItem_16 : decode cX11_refuseItem 16 = .ok (.ifCond .ne 5, 3) := by decide +kernel
theorem dX11_refuseItem_19 : decode cX11_refuseItem 19 = .ok (.iconst (-1), 1) := by decide +kernel
theorem dX11_refuseItem_20 : decode cX11_refuseItem 20 = .ok (.ireturn, 1) := by decide +kernel
theorem dX11_refuseItem_21 : decode cX11_refuseItem 21 = .ok (.aload_n 0, 1) := by decide +kernel
theorem dX11_refuseItem_22 : decode cX11_refuseItem 22 = .ok (.getfield 53, 3) := by decide +kernel
theorem dX11_refuseItem_25 : decode cX11_refuseItem 25 = .ok (.getfield 322, 3) := by decide +kernel
theorem dX11_refuseItem_28 : decode cX11_refuseItem 28 = .ok (.iload_n 1, 1) := by decide +kernel
theorem dX11_refuseItem_29 : decode cX11_refuseItem 29 = .ok (.iaload, 1) := by decide +kernel
theorem dX11_refuseItem_30 : decode cX11_refuseItem 30 = .ok (.bipush (-9), 2) := by decide +kernel
theorem dX11_refuseItem_32 : decode cX11_refuseItem 32 = .ok (.if_icmp .ne 9, 3) := by decide +kernel
theorem dX11_refuseItem_35 : decode cX11_refuseItem 35 = .ok (.aload_n 0, 1) := by decide +kernel
theorem dX11_refuseItem_36 : decode cX11_refuseItem 36 = .ok (.iconst 1, 1) := by decide +kernel
theorem dX11_refuseItem_37 : decode cX11_refuseItem 37 = .ok (.invokevirtual 128, 3) := by decide +kernel
theorem dX11_refuseItem_40 : decode cX11_refuseItem 40 = .ok (.ireturn, 1) := by decide +kernel
theorem dX11_refuseItem_41 : decode cX11_refuseItem 41 = .ok (.aload_n 0, 1) := by decide +kernel
theorem dX11_refuseItem_42 : decode cX11_refuseItem 42 = .ok (.getfield 53, 3) := by decide +kernel
theorem dX11_refuseItem_45 : decode cX11_refuseItem 45 = .ok (.iload_n 1, 1) := by decide +kernel
theorem dX11_refuseItem_46 : decode cX11_refuseItem 46 = .ok (.iload_n 2, 1) := by decide +kernel
theorem dX11_refuseItem_47 : decode cX11_refuseItem 47 = .ok (.invokevirtual 319, 3) := by decide +kernel
theorem dX11_refuseItem_50 : decode cX11_refuseItem 50 = .ok (.ifCond .eq 9, 3) := by decide +kernel
theorem dX11_refuseItem_53 : decode cX11_refuseItem 53 = .ok (.aload_n 0, 1) := by decide +kernel
theorem dX11_refuseItem_54 : decode cX11_refuseItem 54 = .ok (.iconst 3, 1) := by decide +kernel
theorem dX11_refuseItem_55 : decode cX11_refuseItem 55 = .ok (.invokevirtual 128, 3) := by decide +kernel
theorem dX11_refuseItem_58 : decode cX11_refuseItem 58 = .ok (.ireturn, 1) := by decide +kernel
theorem dX11_refuseItem_59 : decode cX11_refuseItem 59 = .ok (.iload_n 3, 1) := by decide +kernel
theorem dX11_refuseItem_60 : decode cX11_refuseItem 60 = .ok (.aload_n 0, 1) := by decide +kernel
theorem dX11_refuseItem_61 : decode cX11_refuseItem 61 = .ok (.getfield 53, 3) := by decide +kernel
theorem dX11_refuseItem_64 : decode cX11_refuseItem 64 = .ok (.getfield 373, 3) := by decide +kernel
theorem dX11_refuseItem_67 : decode cX11_refuseItem 67 = .ok (.iload_n 1, 1) := by decide +kernel
theorem dX11_refuseItem_68 : decode cX11_refuseItem 68 = .ok (.iaload, 1) := by decide +kernel
theorem dX11_refuseItem_69 : decode cX11_refuseItem 69 = .ok (.invokestatic 91, 3) := by decide +kernel
theorem dX11_refuseItem_72 : decode cX11_refuseItem 72 = .ok (.ifCond .eq 7, 3) := by decide +kernel
theorem dX11_refuseItem_75 : decode cX11_refuseItem 75 = .ok (.iconst 0, 1) := by decide +kernel
theorem dX11_refuseItem_76 : decode cX11_refuseItem 76 = .ok (.goto 8, 3) := by decide +kernel
theorem dX11_refuseItem_79 : decode cX11_refuseItem 79 = .ok (.aload_n 0, 1) := by decide +kernel
theorem dX11_refuseItem_80 : decode cX11_refuseItem 80 = .ok (.iconst 2, 1) := by decide +kernel
theorem dX11_refuseItem_81 : decode cX11_refuseItem 81 = .ok (.invokevirtual 128, 3) := by decide +kernel
theorem dX11_refuseItem_84 : decode cX11_refuseItem 84 = .ok (.ireturn, 1) := by decide +kernel
theorem dX11_isBelow_0 : decode cX11_isBelow 0 = .ok (.iload_n 0, 1) := by decide +kernel
theorem dX11_isBelow_1 : decode cX11_isBelow 1 = .ok (.ifCond .lt 12, 3) := by decide +kernel
theorem dX11_isBelow_4 : decode cX11_isBelow 4 = .ok (.iload_n 0, 1) := by decide +kernel
theorem dX11_isBelow_5 : decode cX11_isBelow 5 = .ok (.iload_n 1, 1) := by decide +kernel
theorem dX11_isBelow_6 : decode cX11_isBelow 6 = .ok (.if_icmp .ge 7, 3) := by decide +kernel
theorem dX11_isBelow_9 : decode cX11_isBelow 9 = .ok (.iconst 1, 1) := by decide +kernel
theorem dX11_isBelow_10 : decode cX11_isBelow 10 = .ok (.goto 4, 3) := by decide +kernel
theorem dX11_isBelow_13 : decode cX11_isBelow 13 = .ok (.iconst 0, 1) := by decide +kernel
theorem dX11_isBelow_14 : decode cX11_isBelow 14 = .ok (.ireturn, 1) := by decide +kernel
theorem dX11_oneIf_0 : decode cX11_oneIf 0 = .ok (.iload_n 0, 1) := by decide +kernel
theorem dX11_oneIf_1 : decode cX11_oneIf 1 = .ok (.ifCond .eq 7, 3) := by decide +kernel
theorem dX11_oneIf_4 : decode cX11_oneIf 4 = .ok (.iconst 1, 1) := by decide +kernel
theorem dX11_oneIf_5 : decode cX11_oneIf 5 = .ok (.goto 4, 3) := by decide +kernel
theorem dX11_oneIf_8 : decode cX11_oneIf 8 = .ok (.iconst 0, 1) := by decide +kernel
theorem dX11_oneIf_9 : decode cX11_oneIf 9 = .ok (.ireturn, 1) := by decide +kernel
theorem dX11_deedOf_0 : decode cX11_deedOf 0 = .ok (.iload_n 0, 1) := by decide +kernel
theorem dX11_deedOf_1 : decode cX11_deedOf 1 = .ok (.bipush 10, 2) := by decide +kernel
theorem dX11_deedOf_3 : decode cX11_deedOf 3 = .ok (.ishl, 1) := by decide +kernel
theorem dX11_deedOf_4 : decode cX11_deedOf 4 = .ok (.iload_n 1, 1) := by decide +kernel
theorem dX11_deedOf_5 : decode cX11_deedOf 5 = .ok (.iconst 5, 1) := by decide +kernel
theorem dX11_deedOf_6 : decode cX11_deedOf 6 = .ok (.ishl, 1) := by decide +kernel
theorem dX11_deedOf_7 : decode cX11_deedOf 7 = .ok (.ior, 1) := by decide +kernel
theorem dX11_deedOf_8 : decode cX11_deedOf 8 = .ok (.iload_n 2, 1) := by decide +kernel
theorem dX11_deedOf_9 : decode cX11_deedOf 9 = .ok (.ior, 1) := by decide +kernel
theorem dX11_deedOf_10 : decode cX11_deedOf 10 = .ok (.ireturn, 1) := by decide +kernel
theorem dX11_deedPart_0 : decode cX11_deedPart 0 = .ok (.iload_n 1, 1) := by decide +kernel
theorem dX11_deedPart_1 : decode cX11_deedPart 1 = .ok (.lookupswitch 43 #[(0, 27), (1, 34)], 27) := by decide +kernel
theorem dX11_deedPart_28 : decode cX11_deedPart 28 = .ok (.iload_n 0, 1) := by decide +kernel
theorem dX11_deedPart_29 : decode cX11_deedPart 29 = .ok (.bipush 10, 2) := by decide +kernel
theorem dX11_deedPart_31 : decode cX11_deedPart 31 = .ok (.ishr, 1) := by decide +kernel
theorem dX11_deedPart_32 : decode cX11_deedPart 32 = .ok (.goto 16, 3) := by decide +kernel
theorem dX11_deedPart_35 : decode cX11_deedPart 35 = .ok (.iload_n 0, 1) := by decide +kernel
theorem dX11_deedPart_36 : decode cX11_deedPart 36 = .ok (.iconst 5, 1) := by decide +kernel
theorem dX11_deedPart_37 : decode cX11_deedPart 37 = .ok (.ishr, 1) := by decide +kernel
theorem dX11_deedPart_38 : decode cX11_deedPart 38 = .ok (.bipush 31, 2) := by decide +kernel
theorem dX11_deedPart_40 : decode cX11_deedPart 40 = .ok (.iand, 1) := by decide +kernel
theorem dX11_deedPart_41 : decode cX11_deedPart 41 = .ok (.goto 7, 3) := by decide +kernel
theorem dX11_deedPart_44 : decode cX11_deedPart 44 = .ok (.iload_n 0, 1) := by decide +kernel
theorem dX11_deedPart_45 : decode cX11_deedPart 45 = .ok (.bipush 31, 2) := by decide +kernel
theorem dX11_deedPart_47 : decode cX11_deedPart 47 = .ok (.iand, 1) := by decide +kernel
theorem dX11_deedPart_48 : decode cX11_deedPart 48 = .ok (.ireturn, 1) := by decide +kernel
theorem dX12_init_0 : decode cX12_init 0 = .ok (.aload_n 0, 1) := by decide +kernel
theorem dX12_init_1 : decode cX12_init 1 = .ok (.invokespecial 1, 3) := by decide +kernel
theorem dX12_init_4 : decode cX12_init 4 = .ok (.aload_n 0, 1) := by decide +kernel
theorem dX12_init_5 : decode cX12_init 5 = .ok (.bipush 7, 2) := by decide +kernel
theorem dX12_init_7 : decode cX12_init 7 = .ok (.newarray .int, 2) := by decide +kernel
theorem dX12_init_9 : decode cX12_init 9 = .ok (.putfield 7, 3) := by decide +kernel
theorem dX12_init_12 : decode cX12_init 12 = .ok (.aload_n 0, 1) := by decide +kernel
theorem dX12_init_13 : decode cX12_init 13 = .ok (.bipush 24, 2) := by decide +kernel
theorem dX12_init_15 : decode cX12_init 15 = .ok (.newarray .int, 2) := by decide +kernel
theorem dX12_init_17 : decode cX12_init 17 = .ok (.putfield 13, 3) := by decide +kernel
theorem dX12_init_20 : decode cX12_init 20 = .ok (.aload_n 0, 1) := by decide +kernel
theorem dX12_init_21 : decode cX12_init 21 = .ok (.sipush 144, 3) := by decide +kernel
theorem dX12_init_24 : decode cX12_init 24 = .ok (.newarray .int, 2) := by decide +kernel
theorem dX12_init_26 : decode cX12_init 26 = .ok (.putfield 16, 3) := by decide +kernel
theorem dX12_init_29 : decode cX12_init 29 = .ok (.aload_n 0, 1) := by decide +kernel
theorem dX12_init_30 : decode cX12_init 30 = .ok (.bipush 30, 2) := by decide +kernel
theorem dX12_init_32 : decode cX12_init 32 = .ok (.newarray .int, 2) := by decide +kernel
theorem dX12_init_34 : decode cX12_init 34 = .ok (.putfield 19, 3) := by decide +kernel
theorem dX12_init_37 : decode cX12_init 37 = .ok (.aload_n 0, 1) := by decide +kernel
theorem dX12_init_38 : decode cX12_init 38 = .ok (.bipush 30, 2) := by decide +kernel
theorem dX12_init_40 : decode cX12_init 40 = .ok (.newarray .int, 2) := by decide +kernel
theorem dX12_init_42 : decode cX12_init 42 = .ok (.putfield 22, 3) := by decide +kernel
theorem dX12_init_45 : decode cX12_init 45 = .ok (.aload_n 0, 1) := by decide +kernel
theorem dX12_init_46 : decode cX12_init 46 = .ok (.sipush 200, 3) := by decide +kernel
theorem dX12_init_49 : decode cX12_init 49 = .ok (.newarray .int, 2) := by decide +kernel
theorem dX12_init_51 : decode cX12_init 51 = .ok (.putfield 25, 3) := by decide +kernel
theorem dX12_init_54 : decode cX12_init 54 = .ok (.aload_n 0, 1) := by decide +kernel
theorem dX12_init_55 : decode cX12_init 55 = .ok (.sipush 200, 3) := by decide +kernel
theorem dX12_init_58 : decode cX12_init 58 = .ok (.newarray .int, 2) := by decide +kernel
theorem dX12_init_60 : decode cX12_init 60 = .ok (.putfield 28, 3) := by decide +kernel
theorem dX12_init_63 : decode cX12_init 63 = .ok (.aload_n 0, 1) := by decide +kernel
theorem dX12_init_64 : decode cX12_init 64 = .ok (.sipush 200, 3) := by decide +kernel
theorem dX12_init_67 : decode cX12_init 67 = .ok (.newarray .int, 2) := by decide +kernel
theorem dX12_init_69 : decode cX12_init 69 = .ok (.putfield 31, 3) := by decide +kernel
theorem dX12_init_72 : decode cX12_init 72 = .ok (.aload_n 0, 1) := by decide +kernel
theorem dX12_init_73 : decode cX12_init 73 = .ok (.sipush 200, 3) := by decide +kernel
theorem dX12_init_76 : decode cX12_init 76 = .ok (.newarray .int, 2) := by decide +kernel
theorem dX12_init_78 : decode cX12_init 78 = .ok (.putfield 34, 3) := by decide +kernel
theorem dX12_init_81 : decode cX12_init 81 = .ok (.aload_n 0, 1) := by decide +kernel
theorem dX12_init_82 : decode cX12_init 82 = .ok (.sipush 200, 3) := by decide +kernel
theorem dX12_init_85 : decode cX12_init 85 = .ok (.newarray .boolean, 2) := by decide +kernel
theorem dX12_init_87 : decode cX12_init 87 = .ok (.putfield 37, 3) := by decide +kernel
theorem dX12_init_90 : decode cX12_init 90 = .ok (.aload_n 0, 1) := by decide +kernel
theorem dX12_init_91 : decode cX12_init 91 = .ok (.sipush 200, 3) := by decide +kernel
theorem dX12_init_94 : decode cX12_init 94 = .ok (.newarray .int, 2) := by decide +kernel
theorem dX12_init_96 : decode cX12_init 96 = .ok (.putfield 41, 3) := by decide +kernel
theorem dX12_init_99 : decode cX12_init 99 = .ok (.aload_n 0, 1) := by decide +kernel
theorem dX12_init_100 : decode cX12_init 100 = .ok (.bipush 30, 2) := by decide +kernel
theorem dX12_init_102 : decode cX12_init 102 = .ok (.newarray .int, 2) := by decide +kernel
theorem dX12_init_104 : decode cX12_init 104 = .ok (.putfield 44, 3) := by decide +kernel
theorem dX12_init_107 : decode cX12_init 107 = .ok (.aload_n 0, 1) := by decide +kernel
theorem dX12_init_108 : decode cX12_init 108 = .ok (.bipush 30, 2) := by decide +kernel
theorem dX12_init_110 : decode cX12_init 110 = .ok (.newarray .int, 2) := by decide +kernel
theorem dX12_init_112 : decode cX12_init 112 = .ok (.putfield 47, 3) := by decide +kernel
theorem dX12_init_115 : decode cX12_init 115 = .ok (.aload_n 0, 1) := by decide +kernel
theorem dX12_init_116 : decode cX12_init 116 = .ok (.bipush 30, 2) := by decide +kernel
theorem dX12_init_118 : decode cX12_init 118 = .ok (.newarray .int, 2) := by decide +kernel
theorem dX12_init_120 : decode cX12_init 120 = .ok (.putfield 50, 3) := by decide +kernel
theorem dX12_init_123 : decode cX12_init 123 = .ok (.aload_n 0, 1) := by decide +kernel
theorem dX12_init_124 : decode cX12_init 124 = .ok (.bipush 30, 2) := by decide +kernel
theorem dX12_init_126 : decode cX12_init 126 = .ok (.newarray .int, 2) := by decide +kernel
theorem dX12_init_128 : decode cX12_init 128 = .ok (.putfield 53, 3) := by decide +kernel
theorem dX12_init_131 : decode cX12_init 131 = .ok (.aload_n 0, 1) := by decide +kernel
theorem dX12_init_132 : decode cX12_init 132 = .ok (.bipush 30, 2) := by decide +kernel
theorem dX12_init_134 : decode cX12_init 134 = .ok (.newarray .boolean, 2) := by decide +kernel
theorem dX12_init_136 : decode cX12_init 136 = .ok (.putfield 56, 3) := by decide +kernel
theorem dX12_init_139 : decode cX12_init 139 = .ok (.aload_n 0, 1) := by decide +kernel
theorem dX12_init_140 : decode cX12_init 140 = .ok (.bipush 30, 2) := by decide +kernel
theorem dX12_init_142 : decode cX12_init 142 = .ok (.newarray .boolean, 2) := by decide +kernel
theorem dX12_init_144 : decode cX12_init 144 = .ok (.putfield 59, 3) := by decide +kernel
theorem dX12_init_147 : decode cX12_init 147 = .ok (.aload_n 0, 1) := by decide +kernel
theorem dX12_init_148 : decode cX12_init 148 = .ok (.sipush 300, 3) := by decide +kernel
theorem dX12_init_151 : decode cX12_init 151 = .ok (.newarray .int, 2) := by decide +kernel
theorem dX12_init_153 : decode cX12_init 153 = .ok (.putfield 62, 3) := by decide +kernel
theorem dX12_init_156 : decode cX12_init 156 = .ok (.aload_n 0, 1) := by decide +kernel
theorem dX12_init_157 : decode cX12_init 157 = .ok (.sipush 3000, 3) := by decide +kernel
theorem dX12_init_160 : decode cX12_init 160 = .ok (.newarray .int, 2) := by decide +kernel
theorem dX12_init_162 : decode cX12_init 162 = .ok (.putfield 65, 3) := by decide +kernel
theorem dX12_init_165 : decode cX12_init 165 = .ok (.aload_n 0, 1) := by decide +kernel
theorem dX12_init_166 : decode cX12_init 166 = .ok (.sipush 3000, 3) := by decide +kernel
theorem dX12_init_169 : decode cX12_init 169 = .ok (.newarray .int, 2) := by decide +kernel
theorem dX12_init_171 : decode cX12_init 171 = .ok (.putfield 68, 3) := by decide +kernel
theorem dX12_init_174 : decode cX12_init 174 = .ok (.aload_n 0, 1) := by decide +kernel
theorem dX12_init_175 : decode cX12_init 175 = .ok (.sipush 3000, 3) := by decide +kernel
theorem dX12_init_178 : decode cX12_init 178 = .ok (.newarray .boolean, 2) := by decide +kernel
theorem dX12_init_180 : decode cX12_init 180 = .ok (.putfield 71, 3) := by decide +kernel
theorem dX12_init_183 : decode cX12_init 183 = .ok (.aload_n 0, 1) := by decide +kernel
theorem dX12_init_184 : decode cX12_init 184 = .ok (.sipush 3000, 3) := by decide +kernel
theorem dX12_init_187 : decode cX12_init 187 = .ok (.newarray .boolean, 2) := by decide +kernel
theorem dX12_init_189 : decode cX12_init 189 = .ok (.putfield 74, 3) := by decide +kernel
theorem dX12_init_192 : decode cX12_init 192 = .ok (.aload_n 0, 1) := by decide +kernel
theorem dX12_init_193 : decode cX12_init 193 = .ok (.bipush 100, 2) := by decide +kernel
theorem dX12_init_195 : decode cX12_init 195 = .ok (.newarray .int, 2) := by decide +kernel
theorem dX12_init_197 : decode cX12_init 197 = .ok (.putfield 77, 3) := by decide +kernel
theorem dX12_init_200 : decode cX12_init 200 = .ok (.aload_n 0, 1) := by decide +kernel
theorem dX12_init_201 : decode cX12_init 201 = .ok (.bipush 30, 2) := by decide +kernel
theorem dX12_init_203 : decode cX12_init 203 = .ok (.newarray .int, 2) := by decide +kernel
theorem dX12_init_205 : decode cX12_init 205 = .ok (.putfield 80, 3) := by decide +kernel
theorem dX12_init_208 : decode cX12_init 208 = .ok (.aload_n 0, 1) := by decide +kernel
theorem dX12_init_209 : decode cX12_init 209 = .ok (.bipush 30, 2) := by decide +kernel
theorem dX12_init_211 : decode cX12_init 211 = .ok (.newarray .int, 2) := by decide +kernel
theorem dX12_init_213 : decode cX12_init 213 = .ok (.putfield 83, 3) := by decide +kernel
theorem dX12_init_216 : decode cX12_init 216 = .ok (.aload_n 0, 1) := by decide +kernel
theorem dX12_init_217 : decode cX12_init 217 = .ok (.bipush 30, 2) := by decide +kernel
theorem dX12_init_219 : decode cX12_init 219 = .ok (.newarray .boolean, 2) := by decide +kernel
theorem dX12_init_221 : decode cX12_init 221 = .ok (.putfield 86, 3) := by decide +kernel
theorem dX12_init_224 : decode cX12_init 224 = .ok (.aload_n 0, 1) := by decide +kernel
theorem dX12_init_225 : decode cX12_init 225 = .ok (.bipush 30, 2) := by decide +kernel
theorem dX12_init_227 : decode cX12_init 227 = .ok (.newarray .boolean, 2) := by decide +kernel
theorem dX12_init_229 : decode cX12_init 229 = .ok (.putfield 89, 3) := by decide +kernel
theorem dX12_init_232 : decode cX12_init 232 = .ok (.aload_n 0, 1) := by decide +kernel
theorem dX12_init_233 : decode cX12_init 233 = .ok (.bipush 30, 2) := by decide +kernel
theorem dX12_init_235 : decode cX12_init 235 = .ok (.newarray .boolean, 2) := by decide +kernel
theorem dX12_init_237 : decode cX12_init 237 = .ok (.putfield 92, 3) := by decide +kernel
theorem dX12_init_240 : decode cX12_init 240 = .ok (.aload_n 0, 1) := by decide +kernel
theorem dX12_init_241 : decode cX12_init 241 = .ok (.bipush 30, 2) := by decide +kernel
theorem dX12_init_243 : decode cX12_init 243 = .ok (.newarray .boolean, 2) := by decide +kernel
theorem dX12_init_245 : decode cX12_init 245 = .ok (.putfield 95, 3) := by decide +kernel
theorem dX12_init_248 : decode cX12_init 248 = .ok (.aload_n 0, 1) := by decide +kernel
theorem dX12_init_249 : decode cX12_init 249 = .ok (.bipush 30, 2) := by decide +kernel
theorem dX12_init_251 : decode cX12_init 251 = .ok (.newarray .boolean, 2) := by decide +kernel
theorem dX12_init_253 : decode cX12_init 253 = .ok (.putfield 98, 3) := by decide +kernel
theorem dX12_init_256 : decode cX12_init 256 = .ok (.aload_n 0, 1) := by decide +kernel
theorem dX12_init_257 : decode cX12_init 257 = .ok (.bipush 30, 2) := by decide +kernel
theorem dX12_init_259 : decode cX12_init 259 = .ok (.newarray .boolean, 2) := by decide +kernel
theorem dX12_init_261 : decode cX12_init 261 = .ok (.putfield 101, 3) := by decide +kernel
theorem dX12_init_264 : decode cX12_init 264 = .ok (.aload_n 0, 1) := by decide +kernel
theorem dX12_init_265 : decode cX12_init 265 = .ok (.bipush 30, 2) := by decide +kernel
theorem dX12_init_267 : decode cX12_init 267 = .ok (.newarray .boolean, 2) := by decide +kernel
theorem dX12_init_269 : decode cX12_init 269 = .ok (.putfield 104, 3) := by decide +kernel
theorem dX12_init_272 : decode cX12_init 272 = .ok (.aload_n 0, 1) := by decide +kernel
theorem dX12_init_273 : decode cX12_init 273 = .ok (.sipush 9030, 3) := by decide +kernel
theorem dX12_init_276 : decode cX12_init 276 = .ok (.newarray .byte, 2) := by decide +kernel
theorem dX12_init_278 : decode cX12_init 278 = .ok (.putfield 107, 3) := by decide +kernel
theorem dX12_init_281 : decode cX12_init 281 = .ok (.aload_n 0, 1) := by decide +kernel
theorem dX12_init_282 : decode cX12_init 282 = .ok (.sipush 9030, 3) := by decide +kernel
theorem dX12_init_285 : decode cX12_init 285 = .ok (.newarray .byte, 2) := by decide +kernel
theorem dX12_init_287 : decode cX12_init 287 = .ok (.putfield 111, 3) := by decide +kernel
theorem dX12_init_290 : decode cX12_init 290 = .ok (.aload_n 0, 1) := by decide +kernel
theorem dX12_init_291 : decode cX12_init 291 = .ok (.sipush 9030, 3) := by decide +kernel
theorem dX12_init_294 : decode cX12_init 294 = .ok (.newarray .byte, 2) := by decide +kernel
theorem dX12_init_296 : decode cX12_init 296 = .ok (.putfield 114, 3) := by decide +kernel
