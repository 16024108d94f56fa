theorem dX12_cast_20 : decode cX12_cast 20 = .ok (.aload_n 0, 1) := by decide +kernel
theorem dX12_cast_21 : decode cX12_cast 21 = .ok (.getfield 450, 3) := by decide +kernel
theorem dX12_cast_24 : decode cX12_cast 24 = .ok (.bipush 10, 2) := by decide +kernel
theorem dX12_cast_26 : decode cX12_cast 26 = .ok (.if_icmp .ne 6, 3) := by decide +kernel
theorem dX12_cast_32 : decode cX12_cast 32 = .ok (.iload_n 2, 1) := by decide +kernel
theorem dX12_cast_33 : decode cX12_cast 33 = .ok (.ifCond .ge 9, 3) := by decide +kernel
theorem dX12_cast_36 : decode cX12_cast 36 = .ok (.aload_n 0, 1) := by decide +kernel
theorem dX12_cast_37 : decode cX12_cast 37 = .ok (.iconst 5, 1) := by decide +kernel
theorem dX12_cast_38 : decode cX12_cast 38 = .ok (.invokevirtual 233, 3) := by decide +kernel
theorem dX12_cast_41 : decode cX12_cast 41 = .ok (.ireturn, 1) := by decide +kernel
theorem dX12_cast_42 : decode cX12_cast 42 = .ok (.aload_n 0, 1) := by decide +kernel
theorem dX12_cast_43 : decode cX12_cast 43 = .ok (.getfield 139, 3) := by decide +kernel
theorem dX12_cast_46 : decode cX12_cast 46 = .ok (.aload_n 0, 1) := by decide +kernel
theorem dX12_cast_47 : decode cX12_cast 47 = .ok (.getfield 450, 3) := by decide +kernel
theorem dX12_cast_50 : decode cX12_cast 50 = .ok (.iload_n 1, 1) := by decide +kernel
theorem dX12_cast_51 : decode cX12_cast 51 = .ok (.iastore, 1) := by decide +kernel
theorem dX12_cast_52 : decode cX12_cast 52 = .ok (.aload_n 0, 1) := by decide +kernel
theorem dX12_cast_53 : decode cX12_cast 53 = .ok (.getfield 142, 3) := by decide +kernel
theorem dX12_cast_56 : decode cX12_cast 56 = .ok (.aload_n 0, 1) := by decide +kernel
theorem dX12_cast_57 : decode cX12_cast 57 = .ok (.getfield 450, 3) := by decide +kernel
theorem dX12_cast_60 : decode cX12_cast 60 = .ok (.iload_n 2, 1) := by decide +kernel
theorem dX12_cast_61 : decode cX12_cast 61 = .ok (.iastore, 1) := by decide +kernel
theorem dX12_cast_62 : decode cX12_cast 62 = .ok (.iconst 0, 1) := by decide +kernel
theorem dX12_cast_63 : decode cX12_cast 63 = .ok (.istore_n 3, 1) := by decide +kernel
theorem dX12_cast_64 : decode cX12_cast 64 = .ok (.iload_n 3, 1) := by decide +kernel
theorem dX12_cast_65 : decode cX12_cast 65 = .ok (.bipush 12, 2) := by decide +kernel
theorem dX12_cast_67 : decode cX12_cast 67 = .ok (.if_icmp .ge 25, 3) := by decide +kernel
theorem dX12_cast_70 : decode cX12_cast 70 = .ok (.aload_n 0, 1) := by decide +kernel
theorem dX12_cast_71 : decode cX12_cast 71 = .ok (.getfield 145, 3) := by decide +kernel
theorem dX12_cast_74 : decode cX12_cast 74 = .ok (.bipush 12, 2) := by decide +kernel
theorem dX12_cast_76 : decode cX12_cast 76 = .ok (.aload_n 0, 1) := by decide +kernel
theorem dX12_cast_77 : decode cX12_cast 77 = .ok (.getfield 450, 3) := by decide +kernel
theorem dX12_cast_80 : decode cX12_cast 80 = .ok (.imul, 1) := by decide +kernel
theorem dX12_cast_81 : decode cX12_cast 81 = .ok (.iload_n 3, 1) := by decide +kernel
theorem dX12_cast_82 : decode cX12_cast 82 = .ok (.iadd, 1) := by decide +kernel
theorem dX12_cast_83 : decode cX12_cast 83 = .ok (.bipush (-9), 2) := by decide +kernel
theorem dX12_cast_85 : decode cX12_cast 85 = .ok (.iastore, 1) := by decide +kernel
theorem dX12_cast_86 : decode cX12_cast 86 = .ok (.iinc 3 1, 3) := by decide +kernel
theorem dX12_cast_89 : decode cX12_cast 89 = .ok (.goto (-25), 3) := by decide +kernel
theorem dX12_cast_92 : decode cX12_cast 92 = .ok (.aload_n 0, 1) := by decide +kernel
theorem dX12_cast_93 : decode cX12_cast 93 = .ok (.dup, 1) := by decide +kernel
theorem dX12_cast_94 : decode cX12_cast 94 = .ok (.getfield 450, 3) := by decide +kernel
theorem dX12_cast_97 : decode cX12_cast 97 = .ok (.iconst 1, 1) := by decide +kernel
theorem dX12_cast_98 : decode cX12_cast 98 = .ok (.iadd, 1) := by decide +kernel
theorem dX12_cast_99 : decode cX12_cast 99 = .ok (.putfield 450, 3) := by decide +kernel
theorem dX12_cast_102 : decode cX12_cast 102 = .ok (.aload_n 0, 1) := by decide +kernel
theorem dX12_cast_103 : decode cX12_cast 103 = .ok (.getfield 450, 3) := by decide +kernel
theorem dX12_cast_106 : decode cX12_cast 106 = .ok (.iconst 1, 1) := by decide +kernel
theorem dX12_cast_107 : decode cX12_cast 107 = .ok (.isub, 1) := by decide +kernel
theorem dX12_cast_108 : decode cX12_cast 108 = .ok (.ireturn, 1) := by decide +kernel
set_option maxRecDepth 20000 in
theorem ggX12_role_X12_in : GoodIn wsX12_role wsX12_in := goodIn_r _ [8] (by decide +kernel) (by decide +kernel)
set_option maxRecDepth 20000 in
theorem gX12_role_X12_in : GoodIn wsX12_role (va_wsS RX12 166 yX12_in wsX12_in) := goodIn_app (goodIn_of _ (by decide +kernel)) ggX12_role_X12_in
theorem dX12_role_0 : decode cX12_role 0 = .ok (.iload_n 1, 1) := by decide +kernel
theorem dX12_role_1 : decode cX12_role 1 = .ok (.i2l, 1) := by decide +kernel
theorem dX12_role_2 : decode cX12_role 2 = .ok (.lconst 0, 1) := by decide +kernel
theorem dX12_role_3 : decode cX12_role 3 = .ok (.aload_n 0, 1) := by decide +kernel
theorem dX12_role_4 : decode cX12_role 4 = .ok (.getfield 450, 3) := by decide +kernel
theorem dX12_role_7 : decode cX12_role 7 = .ok (.iconst 1, 1) := by decide +kernel
theorem dX12_role_8 : decode cX12_role 8 = .ok (.isub, 1) := by decide +kernel
theorem dX12_role_9 : decode cX12_role 9 = .ok (.i2l, 1) := by decide +kernel
theorem dX12_role_10 : decode cX12_role 10 = .ok (.invokestatic 166, 3) := by decide +kernel
theorem dX12_role_13 : decode cX12_role 13 = .ok (.ifCond .eq 17, 3) := by decide +kernel
theorem dX12_role_30 : decode cX12_role 30 = .ok (.iconst (-1), 1) := by decide +kernel
theorem dX12_role_31 : decode cX12_role 31 = .ok (.ireturn, 1) := by decide +kernel
set_option maxRecDepth 20000 in
theorem ggX12_who_X12_in : GoodIn wsX12_who wsX12_in := goodIn_r _ [7] (by decide +kernel) (by decide +kernel)
set_option maxRecDepth 20000 in
theorem gX12_who_X12_in : GoodIn wsX12_who (va_wsS RX12 166 yX12_in wsX12_in) := goodIn_app (goodIn_of _ (by decide +kernel)) ggX12_who_X12_in
theorem dX12_who_0 : decode cX12_who 0 = .ok (.iload_n 1, 1) := by decide +kernel
theorem dX12_who_1 : decode cX12_who 1 = .ok (.i2l, 1) := by decide +kernel
theorem dX12_who_2 : decode cX12_who 2 = .ok (.lconst 0, 1) := by decide +kernel
theorem dX12_who_3 : decode cX12_who 3 = .ok (.aload_n 0, 1) := by decide +kernel
theorem dX12_who_4 : decode cX12_who 4 = .ok (.getfield 450, 3) := by decide +kernel
theorem dX12_who_7 : decode cX12_who 7 = .ok (.iconst 1, 1) := by decide +kernel
theorem dX12_who_8 : decode cX12_who 8 = .ok (.isub, 1) := by decide +kernel
theorem dX12_who_9 : decode cX12_who 9 = .ok (.i2l, 1) := by decide +kernel
theorem dX12_who_10 : decode cX12_who 10 = .ok (.invokestatic 166, 3) := by decide +kernel
theorem dX12_who_13 : decode cX12_who 13 = .ok (.ifCond .ne 5, 3) := by decide +kernel
theorem dX12_who_16 : decode cX12_who 16 = .ok (.iconst (-1), 1) := by decide +kernel
theorem dX12_who_17 : decode cX12_who 17 = .ok (.ireturn, 1) := by decide +kernel
set_option maxRecDepth 20000 in
theorem ggX12_count_X12_saidMany : GoodIn wsX12_count wsX12_saidMany := goodIn_r _ [12, 3, 13, 14, 15, 16, 17, 18, 19, 20, 21, 22, 23, 24, 25, 26, 27, 28, 29, 30, 31, 32, 33, 34, 35, 36, 37, 38, 39, 40, 41, 42, 43, 44, 45, 46, 47, 48, 49, 50, 51, 52, 53, 54, 55, 56, 57, 58, 59, 60, 61, 62, 63, 64, 65, 66, 67, 68, 69, 70, 71, 72, 73, 74, 75, 76, 77, 78, 79, 80, 81, 82] (by decide +kernel) (by decide +kernel)
set_option maxRecDepth 20000 in
theorem gX12_count_X12_saidMany : GoodIn wsX12_count (wsV RX12 248 RX12 yX12_saidMany wsX12_saidMany) := goodIn_app (goodIn_of _ (by decide +kernel)) ggX12_count_X12_saidMany
theorem dX12_count_0 : decode cX12_count 0 = .ok (.iload_n 1, 1) := by decide +kernel
theorem dX12_count_1 : decode cX12_count 1 = .ok (.tableswitch 87 0 7 #[47, 52, 57, 62, 67, 72, 77, 82], 47) := by decide +kernel
theorem dX12_count_48 : decode cX12_count 48 = .ok (.aload_n 0, 1) := by decide +kernel
theorem dX12_count_49 : decode cX12_count 49 = .ok (.getfield 151, 3) := by decide +kernel
theorem dX12_count_52 : decode cX12_count 52 = .ok (.ireturn, 1) := by decide +kernel
theorem dX12_count_53 : decode cX12_count 53 = .ok (.aload_n 0, 1) := by decide +kernel
theorem dX12_count_54 : decode cX12_count 54 = .ok (.getfield 177, 3) := by decide +kernel
theorem dX12_count_57 : decode cX12_count 57 = .ok (.ireturn, 1) := by decide +kernel
theorem dX12_count_58 : decode cX12_count 58 = .ok (.aload_n 0, 1) := by decide +kernel
theorem dX12_count_59 : decode cX12_count 59 = .ok (.invokevirtual 248, 3) := by decide +kernel
theorem dX12_count_62 : decode cX12_count 62 = .ok (.ireturn, 1) := by decide +kernel
theorem dX12_count_63 : decode cX12_count 63 = .ok (.aload_n 0, 1) := by decide +kernel
theorem dX12_count_64 : decode cX12_count 64 = .ok (.getfield 202, 3) := by decide +kernel
theorem dX12_count_67 : decode cX12_count 67 = .ok (.ireturn, 1) := by decide +kernel
theorem dX12_count_68 : decode cX12_count 68 = .ok (.aload_n 0, 1) := by decide +kernel
theorem dX12_count_69 : decode cX12_count 69 = .ok (.getfield 450, 3) := by decide +kernel
theorem dX12_count_72 : decode cX12_count 72 = .ok (.ireturn, 1) := by decide +kernel
theorem dX12_count_73 : decode cX12_count 73 = .ok (.aload_n 0, 1) := by decide +kernel
theorem dX12_count_74 : decode cX12_count 74 = .ok (.getfield 291, 3) := by decide +kernel
theorem dX12_count_77 : decode cX12_count 77 = .ok (.ireturn, 1) := by decide +kernel
theorem dX12_count_78 : decode cX12_count 78 = .ok (.aload_n 0, 1) := by decide +kernel
theorem dX12_count_79 : decode cX12_count 79 = .ok (.getfield 155, 3) := by decide +kernel
theorem dX12_count_82 : decode cX12_count 82 = .ok (.ireturn, 1) := by decide +kernel
theorem dX12_count_83 : decode cX12_count 83 = .ok (.aload_n 0, 1) := by decide +kernel
theorem dX12_count_84 : decode cX12_count 84 = .ok (.getfield 158, 3) := by decide +kernel
theorem dX12_count_87 : decode cX12_count 87 = .ok (.ireturn, 1) := by decide +kernel
theorem dX12_count_88 : decode cX12_count 88 = .ok (.iconst (-1), 1) := by decide +kernel
theorem dX12_count_89 : decode cX12_count 89 = .ok (.ireturn, 1) := by decide +kernel
theorem dX12_digest_0 : decode cX12_digest 0 = .ok (.ldc2_w 453, 3) := by decide +kernel
theorem dX12_digest_3 : decode cX12_digest 3 = .ok (.lstore_n 1, 1) := by decide +kernel
theorem dX12_digest_4 : decode cX12_digest 4 = .ok (.iconst 0, 1) := by decide +kernel
theorem dX12_digest_5 : decode cX12_digest 5 = .ok (.istore_n 3, 1) := by decide +kernel
theorem dX12_digest_6 : decode cX12_digest 6 = .ok (.iload_n 3, 1) := by decide +kernel
theorem dX12_digest_7 : decode cX12_digest 7 = .ok (.aload_n 0, 1) := by decide +kernel
theorem dX12_digest_8 : decode cX12_digest 8 = .ok (.getfield 151, 3) := by decide +kernel
theorem dX12_digest_11 : decode cX12_digest 11 = .ok (.if_icmp .ge 59, 3) := by decide +kernel
theorem dX12_digest_14 : decode cX12_digest 14 = .ok (.ldc2_w 455, 3) := by decide +kernel
theorem dX12_digest_17 : decode cX12_digest 17 = .ok (.lload_n 1, 1) := by decide +kernel
theorem dX12_digest_18 : decode cX12_digest 18 = .ok (.lmul, 1) := by decide +kernel
theorem dX12_digest_19 : decode cX12_digest 19 = .ok (.aload_n 0, 1) := by decide +kernel
theorem dX12_digest_20 : decode cX12_digest 20 = .ok (.getfield 13, 3) := by decide +kernel
theorem dX12_digest_23 : decode cX12_digest 23 = .ok (.iload_n 3, 1) := by decide +kernel
theorem dX12_digest_24 : decode cX12_digest 24 = .ok (.iaload, 1) := by decide +kernel
theorem dX12_digest_25 : decode cX12_digest 25 = .ok (.i2l, 1) := by decide +kernel
theorem dX12_digest_26 : decode cX12_digest 26 = .ok (.ladd, 1) := by decide +kernel
theorem dX12_digest_27 : decode cX12_digest 27 = .ok (.lstore_n 1, 1) := by decide +kernel
theorem dX12_digest_28 : decode cX12_digest 28 = .ok (.iconst 0, 1) := by decide +kernel
theorem dX12_digest_29 : decode cX12_digest 29 = .ok (.istore 4, 2) := by decide +kernel
theorem dX12_digest_31 : decode cX12_digest 31 = .ok (.iload 4, 2) := by decide +kernel
theorem dX12_digest_33 : decode cX12_digest 33 = .ok (.bipush 6, 2) := by decide +kernel
theorem dX12_digest_35 : decode cX12_digest 35 = .ok (.if_icmp .ge 29, 3) := by decide +kernel
theorem dX12_digest_38 : decode cX12_digest 38 = .ok (.ldc2_w 455, 3) := by decide +kernel
theorem dX12_digest_41 : decode cX12_digest 41 = .ok (.lload_n 1, 1) := by decide +kernel
theorem dX12_digest_42 : decode cX12_digest 42 = .ok (.lmul, 1) := by decide +kernel
theorem dX12_digest_43 : decode cX12_digest 43 = .ok (.aload_n 0, 1) := by decide +kernel
theorem dX12_digest_44 : decode cX12_digest 44 = .ok (.getfield 16, 3) := by decide +kernel
theorem dX12_digest_47 : decode cX12_digest 47 = .ok (.bipush 6, 2) := by decide +kernel
theorem dX12_digest_49 : decode cX12_digest 49 = .ok (.iload_n 3, 1) := by decide +kernel
theorem dX12_digest_50 : decode cX12_digest 50 = .ok (.imul, 1) := by decide +kernel
theorem dX12_digest_51 : decode cX12_digest 51 = .ok (.iload 4, 2) := by decide +kernel
theorem dX12_digest_53 : decode cX12_digest 53 = .ok (.iadd, 1) := by decide +kernel
theorem dX12_digest_54 : decode cX12_digest 54 = .ok (.iaload, 1) := by decide +kernel
theorem dX12_digest_55 : decode cX12_digest 55 = .ok (.i2l, 1) := by decide +kernel
theorem dX12_digest_56 : decode cX12_digest 56 = .ok (.ladd, 1) := by decide +kernel
theorem dX12_digest_57 : decode cX12_digest 57 = .ok (.lstore_n 1, 1) := by decide +kernel
theorem dX12_digest_58 : decode cX12_digest 58 = .ok (.iinc 4 1, 3) := by decide +kernel
theorem dX12_digest_61 : decode cX12_digest 61 = .ok (.goto (-30), 3) := by decide +kernel
theorem dX12_digest_64 : decode cX12_digest 64 = .ok (.iinc 3 1, 3) := by decide +kernel
theorem dX12_digest_67 : decode cX12_digest 67 = .ok (.goto (-61), 3) := by decide +kernel
theorem dX12_digest_70 : decode cX12_digest 70 = .ok (.aload_n 0, 1) := by decide +kernel
theorem dX12_digest_71 : decode cX12_digest 71 = .ok (.getfield 155, 3) := by decide +kernel
theorem dX12_digest_74 : decode cX12_digest 74 = .ok (.bipush (-9), 2) := by decide +kernel
theorem dX12_digest_76 : decode cX12_digest 76 = .ok (.if_icmp .eq 11, 3) := by decide +kernel
theorem dX12_digest_87 : decode cX12_digest 87 = .ok (.iconst 0, 1) := by decide +kernel
theorem dX12_digest_88 : decode cX12_digest 88 = .ok (.istore_n 3, 1) := by decide +kernel
theorem dX12_digest_89 : decode cX12_digest 89 = .ok (.iload_n 3, 1) := by decide +kernel
theorem dX12_digest_90 : decode cX12_digest 90 = .ok (.aload_n 0, 1) := by decide +kernel
theorem dX12_digest_91 : decode cX12_digest 91 = .ok (.getfield 177, 3) := by decide +kernel
theorem dX12_digest_94 : decode cX12_digest 94 = .ok (.if_icmp .ge 134, 3) := by decide +kernel
theorem dX12_digest_228 : decode cX12_digest 228 = .ok (.iconst 0, 1) := by decide +kernel
theorem dX12_digest_229 : decode cX12_digest 229 = .ok (.istore_n 3, 1) := by decide +kernel
theorem dX12_digest_230 : decode cX12_digest 230 = .ok (.iload_n 3, 1) := by decide +kernel
theorem dX12_digest_231 : decode cX12_digest 231 = .ok (.aload_n 0, 1) := by decide +kernel
theorem dX12_digest_232 : decode cX12_digest 232 = .ok (.getfield 202, 3) := by decide +kernel
theorem dX12_digest_235 : decode cX12_digest 235 = .ok (.if_icmp .ge 39, 3) := by decide +kernel
theorem dX12_digest_274 : decode cX12_digest 274 = .ok (.lload_n 1, 1) := by decide +kernel
theorem dX12_digest_275 : decode cX12_digest 275 = .ok (.lreturn, 1) := by decide +kernel
theorem dJ7_fill_53178_0 : decode cJ7_fill_53178 0 = .ok (.iconst 0, 1) := by decide +kernel
theorem dJ7_fill_53178_1 : decode cJ7_fill_53178 1 = .ok (.istore_n 2, 1) := by decide +kernel
theorem dJ7_fill_53178_2 : decode cJ7_fill_53178 2 = .ok (.aload_n 0, 1) := by decide +kernel
theorem dJ7_fill_53178_3 : decode cJ7_fill_53178 3 = .ok (.arraylength, 1) := by decide +kernel
theorem dJ7_fill_53178_4 : decode cJ7_fill_53178 4 = .ok (.istore_n 3, 1) := by decide +kernel
theorem dJ7_fill_53178_5 : decode cJ7_fill_53178 5 = .ok (.iload_n 2, 1) := by decide +kernel
theorem dJ7_fill_53178_6 : decode cJ7_fill_53178 6 = .ok (.iload_n 3, 1) := by decide +kernel
theorem dJ7_fill_53178_7 : decode cJ7_fill_53178 7 = .ok (.if_icmp .ge 13, 3) := by decide +kernel
theorem dJ7_fill_53178_10 : decode cJ7_fill_53178 10 = .ok (.aload_n 0, 1) := by decide +kernel
theorem dJ7_fill_53178_11 : decode cJ7_fill_53178 11 = .ok (.iload_n 2, 1) := by decide +kernel
theorem dJ7_fill_53178_12 : decode cJ7_fill_53178 12 = .ok (.iload_n 1, 1) := by decide +kernel
theorem dJ7_fill_53178_13 : decode cJ7_fill_53178 13 = .ok (.iastore, 1) := by decide +kernel
theorem dJ7_fill_53178_14 : decode cJ7_fill_53178 14 = .ok (.iinc 2 1, 3) := by decide +kernel
theorem dJ7_fill_53178_17 : decode cJ7_fill_53178 17 = .ok (.goto (-12), 3) := by decide +kernel
theorem dJ7_fill_53178_20 : decode cJ7_fill_53178 20 = .ok (.return_, 1) := by decide +kernel
set_option maxRecDepth 20000 in
theorem ggL_law_X11_init : GoodIn wsL_law wsX11_init := goodIn_r _ [9, 10, 11, 12, 13, 14, 15, 16, 17, 18, 19, 20, 21, 22, 23, 24, 25, 26, 27, 28, 29, 30, 31, 32, 33, 34, 35, 36, 37, 38, 39, 40, 41, 42, 43, 44, 45, 46, 47, 48, 49, 50, 51, 52, 53, 54, 55, 56, 57, 58, 59, 60, 61, 62, 63, 64, 65, 66, 67, 68, 69, 70, 71, 72, 73, 74, 75, 76, 77, 78, 79, 80, 81, 82, 83, 84, 85, 86, 87, 88, 89, 90, 91, 92, 93, 94, 95, 96, 97, 98, 99, 100, 101, 102, 103, 104, 105, 106, 107, 108, 109, 110, 111, 112, 113, 114, 115, 116, 117, 118, 119, 120, 121, 122, 123, 124, 125, 126, 127, 128, 129, 130, 131, 132, 133, 134, 135, 136, 137, 138, 139, 140, 141, 142, 143, 144, 145, 146, 147, 148, 149, 150, 151, 152, 153, 154, 155, 156, 157, 158, 159, 160, 161, 162, 163, 164, 165, 166, 167, 168, 169, 170, 171, 172, 1502, 1503, 1504, 1505, 1506, 1507, 1508, 1422, 1423, 1424, 1425, 1426, 1427, 1428, 1429, 1430, 1431, 1432, 1509, 1510, 1511, 1512, 1513, 1514, 1515, 1516, 1517, 1518, 1519, 1520, 1521, 1522, 1523, 1524, 1525, 1526, 1527, 1528, 1529, 1530, 1531, 1532, 1533, 1534, 1535, 1536, 1537, 1538, 1539, 1540, 1541, 1542, 1543, 1544, 1545, 1546, 1547, 1548, 1549, 1550, 1551, 1552, 1553, 1554, 1555, 1556, 1557, 1558, 1559, 1560, 1561, 1562, 1563, 1564, 1565, 1566, 1567, 1568, 1569, 1570, 1571] (by decide +kernel) (by decide +kernel)
set_option maxRecDepth 20000 in
theorem gL_law_X11_init : GoodIn wsL_law (wsX11_init) := ggL_law_X11_init
set_option maxRecDepth 20000 in
theorem ggL_law_X12_init : GoodIn wsL_law wsX12_init := goodIn_r _ [175, 176, 11, 12, 42, 177, 178, 179, 180, 181, 182, 183, 184, 185, 68, 186, 187, 188, 189, 190, 191, 192, 193, 194, 195, 196, 197, 198, 199, 200, 201, 202, 203, 204, 205, 206, 207, 208, 209, 210, 211, 212, 213, 214, 215, 216, 217, 162, 218, 219, 220, 221, 222, 223, 224, 225, 226, 1433, 1434, 1435, 1436, 1437, 1438, 1439, 1440, 1441, 1442, 1443, 1444, 1445, 1446, 1447, 1448, 1449, 1450, 1451, 1452, 1453, 1454, 1455, 1456, 1457, 1458, 1459, 1460, 1461, 1462, 1463, 1464, 1465, 1466, 1467, 1468, 1469, 1470, 1471, 1472, 1473, 1474, 1475, 1476, 1477, 1478, 1479, 1480, 1481, 1482, 1483, 1484, 1485, 1486, 1487, 1488, 1489, 1490, 1491, 1492, 1493, 1494, 1495, 1496, 1497, 1498, 1499, 1500, 1501] (by decide +kernel) (by decide +kernel)
set_option maxRecDepth 20000 in
theorem gL_law_X12_init : GoodIn wsL_law (wsX12_init) := ggL_law_X12_init
set_option maxRecDepth 20000 in
theorem ggL_law_X11_kind : GoodIn wsL_law wsX11_kind := goodIn_r _ [230, 16, 231, 232, 233, 234, 15, 235, 55, 236, 237, 238, 239, 50, 51, 1422, 1423, 1424, 1425, 1426, 1427, 1428, 1429, 1430, 1431, 1432, 1502, 1503, 1504, 1505, 1506, 1507, 1508] (by decide +kernel) (by decide +kernel)
set_option maxRecDepth 20000 in
theorem gL_law_X11_kind : GoodIn wsL_law (wsV RL 13 RX11 yX11_kind wsX11_kind) := goodIn_app (goodIn_of _ (by decide +kernel)) ggL_law_X11_kind
set_option maxRecDepth 20000 in
theorem ggL_law_X12_kind : GoodIn wsL_law wsX12_kind := goodIn_r _ [243, 224, 178, 244, 245, 5, 246, 1433, 1434, 1435, 1436, 1437, 1438, 1439, 1440, 1441, 1442, 1443, 1444, 1445, 1446, 1447, 1448, 1449, 1450, 1451, 1452, 1453, 1454, 1455, 1456, 1457, 1458, 1459, 1460, 1461, 1462, 1463, 1464, 1465, 1466, 1467, 1468, 1469, 1470, 1471, 1472, 1473, 1474, 1475, 1476, 1477, 1478, 1479, 1480, 1481, 1482, 1483, 1484, 1485, 1486, 1487, 1488, 1489, 1490, 1491, 1492, 1493, 1494, 1495, 1496, 1497, 1498, 1499, 1500, 1501] (by decide +kernel) (by decide +kernel)
set_option maxRecDepth 20000 in
theorem gL_law_X12_kind : GoodIn wsL_law (wsV RL 17 RX12 yX12_kind wsX12_kind) := goodIn_app (goodIn_of _ (by decide +kernel)) ggL_law_X12_kind
set_option maxRecDepth 20000 in
theorem ggL_law_X11_standard : GoodIn wsL_law wsX11_standard := goodIn_r _ [250, 16, 32, 232, 233, 234, 15, 235, 55, 251, 252, 2, 253, 254, 255, 256, 31, 257, 258, 259, 260, 261, 262, 263, 52, 1422, 1423, 1424, 1425, 1426, 1427, 1428, 1429, 1430, 1431, 1432, 1502, 1503, 1504, 1505, 1506, 1507, 1508, 1539, 1540, 1541, 1542, 1543, 1544, 1545, 1546, 1547, 1548, 1549] (by decide +kernel) (by decide +kernel)
set_option maxRecDepth 20000 in
theorem gL_law_X11_standard : GoodIn wsL_law (wsV RL 18 RX11 yX11_standard wsX11_standard) := goodIn_app (goodIn_of _ (by decide +kernel)) ggL_law_X11_standard
set_option maxRecDepth 20000 in
theorem ggL_law_X12_standard : GoodIn wsL_law wsX12_standard := goodIn_r _ [267, 224, 268, 179, 244, 245, 5, 246, 269, 270, 271, 272, 225, 273, 1433, 1434, 1435, 1436, 1437, 1438, 1439, 1440, 1441, 1442, 1443, 1444, 1445, 1446, 1447, 1448, 1449, 1450, 1451, 1452, 1453, 1454, 1455, 1456, 1457, 1458, 1459, 1460, 1461, 1462, 1463, 1464, 1465, 1466, 1467, 1468, 1469, 1470, 1471, 1472, 1473, 1474, 1475, 1476, 1477, 1478, 1479, 1480, 1481, 1482, 1483, 1484, 1485, 1486, 1487, 1488, 1489, 1490, 1491, 1492, 1493, 1494, 1495, 1496, 1497, 1498, 1499, 1500, 1501] (by decide +kernel) (by decide +kernel)
set_option maxRecDepth 20000 in
theorem gL_law_X12_standard : GoodIn wsL_law (wsV RL 22 RX12 yX12_standard wsX12_standard) := goodIn_app (goodIn_of _ (by decide +kernel)) ggL_law_X12_standard
set_option maxRecDepth 20000 in
theorem ggL_law_X11_make : GoodIn wsL_law wsX11_make := goodIn_r _ [277, 16, 278, 32, 232, 233, 234, 15, 235, 55, 254, 255, 256, 31, 257, 258, 259, 279, 280, 281, 282, 53, 283, 54, 1422, 1423, 1424, 1425, 1426, 1427, 1428, 1429, 1430, 1431, 1432, 1502, 1503, 1504, 1505, 1506, 1507, 1508, 1539, 1540, 1541, 1542, 1543, 1544, 1545, 1546, 1547, 1548, 1549] (by decide +kernel) (by decide +kernel)
set_option maxRecDepth 20000 in
theorem gL_law_X11_make : GoodIn wsL_law (wsV RL 23 RX11 yX11_make wsX11_make) := goodIn_app (goodIn_of _ (by decide +kernel)) ggL_law_X11_make
set_option maxRecDepth 20000 in
theorem ggL_law_X12_make : GoodIn wsL_law wsX12_make := goodIn_r _ [287, 224, 288, 289, 180, 181, 244, 245, 5, 246, 269, 270, 271, 272, 225, 273, 1433, 1434, 1435, 1436, 1437, 1438, 1439, 1440, 1441, 1442, 1443, 1444, 1445, 1446, 1447, 1448, 1449, 1450, 1451, 1452, 1453, 1454, 1455, 1456, 1457, 1458, 1459, 1460, 1461, 1462, 1463, 1464, 1465, 1466, 1467, 1468, 1469, 1470, 1471, 1472, 1473, 1474, 1475, 1476, 1477, 1478, 1479, 1480, 1481, 1482, 1483, 1484, 1485, 1486, 1487, 1488, 1489, 1490, 1491, 1492, 1493, 1494, 1495, 1496, 1497, 1498, 1499, 1500, 1501] (by decide +kernel) (by decide +kernel)
set_option maxRecDepth 20000 in
theorem gL_law_X12_make : GoodIn wsL_law (wsV RL 27 RX12 yX12_make wsX12_make) := goodIn_app (goodIn_of _ (by decide +kernel)) ggL_law_X12_make
set_option maxRecDepth 20000 in
theorem ggL_law_X11_is : GoodIn wsL_law wsX11_is := goodIn_r _ [293, 16, 294, 295, 296, 297, 15, 298, 283, 232, 233, 234, 235, 55, 299, 300, 301, 302, 50, 303, 304, 2, 305, 1422, 1423, 1424, 1425, 1426, 1427, 1428, 1429, 1430, 1431, 1432, 1502, 1503, 1504, 1505, 1506, 1507, 1508] (by decide +kernel) (by decide +kernel)
set_option maxRecDepth 20000 in
theorem gL_law_X11_is : GoodIn wsL_law (wsV RL 28 RX11 yX11_is wsX11_is) := goodIn_app (goodIn_of _ (by decide +kernel)) ggL_law_X11_is
set_option maxRecDepth 20000 in
theorem ggL_law_X12_is : GoodIn wsL_law wsX12_is := goodIn_r _ [309, 224, 310, 311, 312, 5, 313, 289, 244, 245, 246, 314, 315, 316, 317, 180, 178, 1433, 1434, 1435, 1436, 1437, 1438, 1439, 1440, 1441, 1442, 1443, 1444, 1445, 1446, 1447, 1448, 1449, 1450, 1451, 1452, 1453, 1454, 1455, 1456, 1457, 1458, 1459, 1460, 1461, 1462, 1463, 1464, 1465, 1466, 1467, 1468, 1469, 1470, 1471, 1472, 1473, 1474, 1475, 1476, 1477, 1478, 1479, 1480, 1481, 1482, 1483, 1484, 1485, 1486, 1487, 1488, 1489, 1490, 1491, 1492, 1493, 1494, 1495, 1496, 1497, 1498, 1499, 1500, 1501] (by decide +kernel) (by decide +kernel)
set_option maxRecDepth 20000 in
theorem gL_law_X12_is : GoodIn wsL_law (wsV RL 31 RX12 yX12_is wsX12_is) := goodIn_app (goodIn_of _ (by decide +kernel)) ggL_law_X12_is
set_option maxRecDepth 20000 in
theorem ggL_law_X11_bulk : GoodIn wsL_law wsX11_bulk := goodIn_r _ [321, 16, 28, 45, 295, 296, 297, 15, 298, 283, 322, 323, 324, 27, 325, 326, 327, 328, 329, 330, 51, 53, 331, 332, 333, 2, 334, 44, 43, 335, 336, 337, 338, 32, 339, 340, 20, 341, 342, 343, 344, 345, 346, 347, 348, 349, 350, 113, 351, 352, 353, 354, 355, 356, 357, 358, 359, 360, 361, 112, 362, 363, 364, 365, 366, 367, 368, 369, 78, 370, 84, 1422, 1423, 1424, 1425, 1426, 1427, 1428, 1429, 1430, 1431, 1432, 1502, 1503, 1504, 1505, 1506, 1507, 1508, 1535, 1536, 1537, 1538, 1539, 1540, 1541, 1542, 1543, 1544, 1545, 1546, 1547, 1548, 1549, 1509, 1510, 1511, 1512, 1513, 1514, 1515, 1516, 1517, 1518, 1519, 1520, 1521, 1522, 1523, 1557, 1558] (by decide +kernel) (by decide +kernel)
set_option maxRecDepth 20000 in
theorem gL_law_X11_bulk : GoodIn wsL_law (wsV RL 32 RX11 yX11_bulk wsX11_bulk) := goodIn_app (goodIn_of _ (by decide +kernel)) ggL_law_X11_bulk
set_option maxRecDepth 20000 in
theorem ggL_law_X12_bulk : GoodIn wsL_law wsX12_bulk := goodIn_r _ [374, 375, 376, 377, 378, 310, 311, 312, 5, 313, 289, 244, 245, 246, 314, 315, 316, 317, 180, 178, 379, 380, 381, 382, 383, 177, 384, 385, 386, 387, 181, 200, 201, 388, 389, 390, 391, 199, 392, 393, 394, 395, 396, 397, 398, 399, 225, 190, 182, 400, 401, 402, 403, 404, 186, 183, 405, 406, 407, 408, 191, 184, 1433, 1434, 1435, 1436, 1437, 1438, 1439, 1440, 1441, 1442, 1443, 1444, 1445, 1446, 1447, 1448, 1449, 1450, 1451, 1452, 1453, 1454, 1455, 1456, 1457, 1458, 1459, 1460, 1461, 1462, 1463, 1464, 1465, 1466, 1467, 1468, 1469, 1470, 1471, 1472, 1473, 1474, 1475, 1476, 1477, 1478, 1479, 1480, 1481, 1482, 1483, 1484, 1485, 1486, 1487, 1488, 1489, 1490, 1491, 1492, 1493, 1494, 1495, 1496, 1497, 1498, 1499, 1500, 1501] (by decide +kernel) (by decide +kernel)
set_option maxRecDepth 20000 in
theorem gL_law_X12_bulk : GoodIn wsL_law (wsV RL 35 RX12 yX12_bulk wsX12_bulk) := goodIn_app (goodIn_of _ (by decide +kernel)) ggL_law_X12_bulk
set_option maxRecDepth 20000 in
theorem ggL_law_X11_asked : GoodIn wsL_law wsX11_asked := goodIn_r _ [412, 45, 1422, 1423, 1424, 1425, 1426, 1427, 1428, 1429, 1430, 1431, 1432] (by decide +kernel) (by decide +kernel)
set_option maxRecDepth 20000 in
theorem gL_law_X11_asked : GoodIn wsL_law (wsV RL 36 RX11 yX11_asked wsX11_asked) := goodIn_app (goodIn_of _ (by decide +kernel)) ggL_law_X11_asked
set_option maxRecDepth 20000 in
theorem ggL_law_X12_asked : GoodIn wsL_law wsX12_asked := goodIn_r _ [416, 378, 1433, 1434, 1435, 1436, 1437, 1438, 1439, 1440, 1441, 1442, 1443, 1444, 1445, 1446, 1447, 1448, 1449, 1450, 1451, 1452, 1453, 1454, 1455, 1456, 1457, 1458, 1459, 1460, 1461, 1462, 1463, 1464, 1465, 1466, 1467, 1468, 1469, 1470, 1471, 1472, 1473, 1474, 1475, 1476, 1477, 1478, 1479, 1480, 1481, 1482, 1483, 1484, 1485, 1486, 1487, 1488, 1489, 1490, 1491, 1492, 1493, 1494, 1495, 1496, 1497, 1498, 1499, 1500, 1501] (by decide +kernel) (by decide +kernel)
set_option maxRecDepth 20000 in
theorem gL_law_X12_asked : GoodIn wsL_law (wsV RL 40 RX12 yX12_asked wsX12_asked) := goodIn_app (goodIn_of _ (by decide +kernel)) ggL_law_X12_asked
set_option maxRecDepth 20000 in
theorem ggL_law_X11_trace : GoodIn wsL_law wsX11_trace := goodIn_r _ [420, 28, 421, 422, 251, 252, 2, 253, 1422, 1423, 1424, 1425, 1426, 1427, 1428, 1429, 1430, 1431, 1432, 1535, 1536, 1537, 1538] (by decide +kernel) (by decide +kernel)
set_option maxRecDepth 20000 in
theorem gL_law_X11_trace : GoodIn wsL_law (wsV RL 41 RX11 yX11_trace wsX11_trace) := goodIn_app (goodIn_of _ (by decide +kernel)) ggL_law_X11_trace
set_option maxRecDepth 20000 in
theorem ggL_law_X12_trace : GoodIn wsL_law wsX12_trace := goodIn_r _ [426, 375, 199, 244, 245, 5, 246, 1433, 1434, 1435, 1436, 1437, 1438, 1439, 1440, 1441, 1442, 1443, 1444, 1445, 1446, 1447, 1448, 1449, 1450, 1451, 1452, 1453, 1454, 1455, 1456, 1457, 1458, 1459, 1460, 1461, 1462, 1463, 1464, 1465, 1466, 1467, 1468, 1469, 1470, 1471, 1472, 1473, 1474, 1475, 1476, 1477, 1478, 1479, 1480, 1481, 1482, 1483, 1484, 1485, 1486, 1487, 1488, 1489, 1490, 1491, 1492, 1493, 1494, 1495, 1496, 1497, 1498, 1499, 1500, 1501] (by decide +kernel) (by decide +kernel)
set_option maxRecDepth 20000 in
theorem gL_law_X12_trace : GoodIn wsL_law (wsV RL 44 RX12 yX12_trace wsX12_trace) := goodIn_app (goodIn_of _ (by decide +kernel)) ggL_law_X12_trace
set_option maxRecDepth 20000 in
theorem ggL_law_X11_share : GoodIn wsL_law wsX11_share := goodIn_r _ [430, 16, 28, 431, 45, 295, 296, 297, 15, 298, 283, 327, 328, 329, 330, 51, 53, 331, 332, 333, 2, 334, 44, 43, 335, 336, 337, 338, 32, 339, 340, 20, 341, 432, 433, 434, 27, 435, 347, 348, 349, 350, 113, 351, 352, 353, 354, 355, 356, 357, 358, 359, 360, 361, 346, 326, 112, 362, 363, 364, 365, 366, 367, 368, 369, 78, 370, 84, 436, 437, 438, 439, 440, 441, 442, 443, 1422, 1423, 1424, 1425, 1426, 1427, 1428, 1429, 1430, 1431, 1432, 1502, 1503, 1504, 1505, 1506, 1507, 1508, 1539, 1540, 1541, 1542, 1543, 1544, 1545, 1546, 1547, 1548, 1549, 1509, 1510, 1511, 1512, 1513, 1514, 1515, 1516, 1517, 1518, 1519, 1520, 1521, 1522, 1523, 1535, 1536, 1537, 1538, 1557, 1558] (by decide +kernel) (by decide +kernel)
set_option maxRecDepth 20000 in
theorem gL_law_X11_share : GoodIn wsL_law (wsV RL 45 RX11 yX11_share wsX11_share) := goodIn_app (goodIn_of _ (by decide +kernel)) ggL_law_X11_share
set_option maxRecDepth 20000 in
theorem ggL_law_X12_share : GoodIn wsL_law wsX12_share := goodIn_r _ [447, 377, 289, 448, 378, 310, 311, 312, 5, 313, 244, 245, 246, 314, 315, 316, 317, 180, 178, 379, 380, 381, 382, 383, 177, 384, 385, 386, 387, 181, 200, 201, 388, 389, 390, 391, 376, 375, 199, 392, 393, 394, 395, 396, 397, 398, 399, 225, 190, 182, 400, 401, 402, 403, 404, 186, 183, 405, 406, 407, 408, 191, 184, 1433, 1434, 1435, 1436, 1437, 1438, 1439, 1440, 1441, 1442, 1443, 1444, 1445, 1446, 1447, 1448, 1449, 1450, 1451, 1452, 1453, 1454, 1455, 1456, 1457, 1458, 1459, 1460, 1461, 1462, 1463, 1464, 1465, 1466, 1467, 1468, 1469, 1470, 1471, 1472, 1473, 1474, 1475, 1476, 1477, 1478, 1479, 1480, 1481, 1482, 1483, 1484, 1485, 1486, 1487, 1488, 1489, 1490, 1491, 1492, 1493, 1494, 1495, 1496, 1497, 1498, 1499, 1500, 1501] (by decide +kernel) (by decide +kernel)
set_option maxRecDepth 20000 in
theorem gL_law_X12_share : GoodIn wsL_law (wsV RL 48 RX12 yX12_share wsX12_share) := goodIn_app (goodIn_of _ (by decide +kernel)) ggL_law_X12_share
set_option maxRecDepth 20000 in
theorem ggL_law_X11_say : GoodIn wsL_law wsX11_say := goodIn_r _ [452, 20, 453, 32, 24, 454, 455, 456, 19, 457, 458, 459, 460, 461, 462, 75, 463, 296, 297, 15, 298, 283, 252, 2, 253, 464, 465, 466, 467, 468, 328, 329, 330, 51, 53, 469, 470, 471, 472, 473, 474, 475, 476, 477, 478, 479, 480, 481, 482, 483, 484, 485, 486, 487, 488, 331, 332, 333, 334, 44, 43, 489, 490, 491, 492, 64, 65, 66, 67, 493, 494, 495, 496, 71, 72, 73, 70, 497, 498, 499, 500, 501, 502, 503, 504, 74, 505, 506, 507, 508, 509, 69, 510, 511, 512, 513, 514, 79, 515, 516, 517, 518, 519, 520, 521, 78, 522, 84, 523, 524, 525, 526, 527, 528, 529, 530, 531, 441, 442, 443, 532, 533, 534, 535, 536, 254, 255, 256, 31, 257, 258, 259, 537, 538, 539, 540, 541, 542, 543, 544, 545, 546, 547, 548, 549, 550, 551, 552, 23, 553, 103, 104, 105, 106, 92, 93, 94, 95, 96, 97, 107, 57, 58, 59, 554, 555, 556, 557, 102, 558, 559, 560, 561, 562, 563, 564, 565, 566, 567, 568, 569, 570, 571, 101, 572, 573, 574, 575, 576, 577, 578, 579, 580, 1422, 1423, 1424, 1425, 1426, 1427, 1428, 1429, 1430, 1431, 1432, 1509, 1510, 1511, 1512, 1513, 1514, 1515, 1516, 1517, 1518, 1519, 1520, 1521, 1522, 1523, 1502, 1503, 1504, 1505, 1506, 1507, 1508, 1557, 1558, 1539, 1540, 1541, 1542, 1543, 1544, 1545, 1546, 1547, 1548, 1549, 1524, 1525, 1526, 1527, 1528, 1529, 1530, 1531, 1532, 1533, 1534] (by decide +kernel) (by decide +kernel)
set_option maxRecDepth 20000 in
theorem gL_law_X11_say : GoodIn wsL_law (wsV RL 49 RX11 yX11_say wsX11_say) := goodIn_app (goodIn_of _ (by decide +kernel)) ggL_law_X11_say
set_option maxRecDepth 20000 in
theorem ggL_law_X12_say : GoodIn wsL_law wsX12_say := goodIn_r _ [584, 585, 586, 404, 182, 183, 184, 185, 186, 244, 245, 5, 246, 587, 588, 589, 590, 268, 591, 310, 311, 312, 313, 289, 592, 593, 594, 595, 596, 597, 598, 599, 314, 315, 316, 317, 180, 178, 600, 601, 602, 603, 604, 605, 606, 607, 608, 609, 610, 611, 612, 613, 614, 615, 616, 617, 618, 619, 379, 380, 381, 382, 383, 177, 620, 621, 622, 623, 400, 401, 402, 403, 624, 625, 626, 627, 187, 628, 629, 630, 631, 632, 633, 634, 635, 636, 637, 638, 639, 269, 270, 271, 272, 225, 273, 1433, 1434, 1435, 1436, 1437, 1438, 1439, 1440, 1441, 1442, 1443, 1444, 1445, 1446, 1447, 1448, 1449, 1450, 1451, 1452, 1453, 1454, 1455, 1456, 1457, 1458, 1459, 1460, 1461, 1462, 1463, 1464, 1465, 1466, 1467, 1468, 1469, 1470, 1471, 1472, 1473, 1474, 1475, 1476, 1477, 1478, 1479, 1480, 1481, 1482, 1483, 1484, 1485, 1486, 1487, 1488, 1489, 1490, 1491, 1492, 1493, 1494, 1495, 1496, 1497, 1498, 1499, 1500, 1501] (by decide +kernel) (by decide +kernel)
set_option maxRecDepth 20000 in
theorem gL_law_X12_say : GoodIn wsL_law (wsV RL 53 RX12 yX12_say wsX12_say) := goodIn_app (goodIn_of _ (by decide +kernel)) ggL_law_X12_say
set_option maxRecDepth 20000 in
theorem ggL_law_X11_unsay : GoodIn wsL_law wsX11_unsay := goodIn_r _ [643, 20, 453, 644, 32, 24, 645, 646, 251, 252, 2, 253, 254, 255, 256, 31, 257, 258, 259, 647, 648, 649, 19, 650, 69, 541, 542, 543, 544, 545, 65, 64, 71, 67, 72, 66, 73, 70, 79, 546, 547, 548, 78, 549, 550, 551, 552, 23, 553, 103, 104, 105, 106, 92, 93, 94, 95, 96, 97, 107, 57, 58, 59, 554, 555, 556, 557, 102, 558, 559, 560, 561, 562, 563, 564, 565, 566, 567, 568, 569, 570, 571, 101, 572, 328, 329, 15, 330, 283, 51, 53, 573, 574, 575, 576, 577, 578, 579, 580, 1422, 1423, 1424, 1425, 1426, 1427, 1428, 1429, 1430, 1431, 1432, 1509, 1510, 1511, 1512, 1513, 1514, 1515, 1516, 1517, 1518, 1519, 1520, 1521, 1522, 1523, 1539, 1540, 1541, 1542, 1543, 1544, 1545, 1546, 1547, 1548, 1549, 1557, 1558, 1524, 1525, 1526, 1527, 1528, 1529, 1530, 1531, 1532, 1533, 1534, 1502, 1503, 1504, 1505, 1506, 1507, 1508] (by decide +kernel) (by decide +kernel)
set_option maxRecDepth 20000 in
theorem gL_law_X11_unsay : GoodIn wsL_law (wsV RL 54 RX11 yX11_unsay wsX11_unsay) := goodIn_app (goodIn_of _ (by decide +kernel)) ggL_law_X11_unsay
set_option maxRecDepth 20000 in
theorem ggL_law_X12_unsay : GoodIn wsL_law wsX12_unsay := goodIn_r _ [654, 404, 186, 244, 245, 5, 246, 269, 270, 271, 272, 225, 273, 655, 656, 657, 658, 1433, 1434, 1435, 1436, 1437, 1438, 1439, 1440, 1441, 1442, 1443, 1444, 1445, 1446, 1447, 1448, 1449, 1450, 1451, 1452, 1453, 1454, 1455, 1456, 1457, 1458, 1459, 1460, 1461, 1462, 1463, 1464, 1465, 1466, 1467, 1468, 1469, 1470, 1471, 1472, 1473, 1474, 1475, 1476, 1477, 1478, 1479, 1480, 1481, 1482, 1483, 1484, 1485, 1486, 1487, 1488, 1489, 1490, 1491, 1492, 1493, 1494, 1495, 1496, 1497, 1498, 1499, 1500, 1501] (by decide +kernel) (by decide +kernel)
set_option maxRecDepth 20000 in
theorem gL_law_X12_unsay : GoodIn wsL_law (wsV RL 57 RX12 yX12_unsay wsX12_unsay) := goodIn_app (goodIn_of _ (by decide +kernel)) ggL_law_X12_unsay
set_option maxRecDepth 20000 in
theorem ggL_law_X11_clash : GoodIn wsL_law wsX11_clash := goodIn_r _ [662, 20, 663, 664, 251, 252, 2, 253, 1422, 1423, 1424, 1425, 1426, 1427, 1428, 1429, 1430, 1431, 1432, 1509, 1510, 1511, 1512, 1513, 1514, 1515, 1516, 1517, 1518, 1519, 1520, 1521, 1522, 1523] (by decide +kernel) (by decide +kernel)
set_option maxRecDepth 20000 in
theorem gL_law_X11_clash : GoodIn wsL_law (wsV RL 58 RX11 yX11_clash wsX11_clash) := goodIn_app (goodIn_of _ (by decide +kernel)) ggL_law_X11_clash
set_option maxRecDepth 20000 in
theorem ggL_law_X12_clash : GoodIn wsL_law wsX12_clash := goodIn_r _ [668, 585, 187, 244, 245, 5, 246, 1433, 1434, 1435, 1436, 1437, 1438, 1439, 1440, 1441, 1442, 1443, 1444, 1445, 1446, 1447, 1448, 1449, 1450, 1451, 1452, 1453, 1454, 1455, 1456, 1457, 1458, 1459, 1460, 1461, 1462, 1463, 1464, 1465, 1466, 1467, 1468, 1469, 1470, 1471, 1472, 1473, 1474, 1475, 1476, 1477, 1478, 1479, 1480, 1481, 1482, 1483, 1484, 1485, 1486, 1487, 1488, 1489, 1490, 1491, 1492, 1493, 1494, 1495, 1496, 1497, 1498, 1499, 1500, 1501] (by decide +kernel) (by decide +kernel)
set_option maxRecDepth 20000 in
theorem gL_law_X12_clash : GoodIn wsL_law (wsV RL 61 RX12 yX12_clash wsX12_clash) := goodIn_app (goodIn_of _ (by decide +kernel)) ggL_law_X12_clash
set_option maxRecDepth 20000 in
theorem ggL_law_X11_sentence : GoodIn wsL_law wsX11_sentence := goodIn_r _ [672, 20, 453, 251, 252, 2, 253, 673, 674, 675, 19, 676, 64, 65, 66, 67, 69, 304, 305, 1422, 1423, 1424, 1425, 1426, 1427, 1428, 1429, 1430, 1431, 1432, 1509, 1510, 1511, 1512, 1513, 1514, 1515, 1516, 1517, 1518, 1519, 1520, 1521, 1522, 1523] (by decide +kernel) (by decide +kernel)
set_option maxRecDepth 20000 in
theorem gL_law_X11_sentence : GoodIn wsL_law (wsV RL 62 RX11 yX11_sentence wsX11_sentence) := goodIn_app (goodIn_of _ (by decide +kernel)) ggL_law_X11_sentence
set_option maxRecDepth 20000 in
theorem ggL_law_X12_sentence : GoodIn wsL_law wsX12_sentence := goodIn_r _ [680, 404, 681, 182, 183, 184, 185, 186, 244, 245, 5, 246, 1433, 1434, 1435, 1436, 1437, 1438, 1439, 1440, 1441, 1442, 1443, 1444, 1445, 1446, 1447, 1448, 1449, 1450, 1451, 1452, 1453, 1454, 1455, 1456, 1457, 1458, 1459, 1460, 1461, 1462, 1463, 1464, 1465, 1466, 1467, 1468, 1469, 1470, 1471, 1472, 1473, 1474, 1475, 1476, 1477, 1478, 1479, 1480, 1481, 1482, 1483, 1484, 1485, 1486, 1487, 1488, 1489, 1490, 1491, 1492, 1493, 1494, 1495, 1496, 1497, 1498, 1499, 1500, 1501] (by decide +kernel) (by decide +kernel)
set_option maxRecDepth 20000 in
theorem gL_law_X12_sentence : GoodIn wsL_law (wsV RL 65 RX12 yX12_sentence wsX12_sentence) := goodIn_app (goodIn_of _ (by decide +kernel)) ggL_law_X12_sentence
set_option maxRecDepth 20000 in
theorem ggL_law_X11_place : GoodIn wsL_law wsX11_place := goodIn_r _ [685, 16, 20, 341, 686, 295, 296, 297, 15, 298, 283, 251, 252, 2, 253, 687, 520, 521, 78, 522, 84, 688, 441, 442, 443, 1422, 1423, 1424, 1425, 1426, 1427, 1428, 1429, 1430, 1431, 1432, 1509, 1510, 1511, 1512, 1513, 1514, 1515, 1516, 1517, 1518, 1519, 1520, 1521, 1522, 1523, 1502, 1503, 1504, 1505, 1506, 1507, 1508, 1557, 1558] (by decide +kernel) (by decide +kernel)
set_option maxRecDepth 20000 in
theorem gL_law_X11_place : GoodIn wsL_law (wsV RL 66 RX11 yX11_place wsX11_place) := goodIn_app (goodIn_of _ (by decide +kernel)) ggL_law_X11_place
set_option maxRecDepth 20000 in
theorem ggL_law_X12_place : GoodIn wsL_law wsX12_place := goodIn_r _ [692, 693, 182, 184, 310, 311, 312, 5, 313, 289, 244, 245, 246, 400, 401, 402, 403, 404, 186, 183, 1433, 1434, 1435, 1436, 1437, 1438, 1439, 1440, 1441, 1442, 1443, 1444, 1445, 1446, 1447, 1448, 1449, 1450, 1451, 1452, 1453, 1454, 1455, 1456, 1457, 1458, 1459, 1460, 1461, 1462, 1463, 1464, 1465, 1466, 1467, 1468, 1469, 1470, 1471, 1472, 1473, 1474, 1475, 1476, 1477, 1478, 1479, 1480, 1481, 1482, 1483, 1484, 1485, 1486, 1487, 1488, 1489, 1490, 1491, 1492, 1493, 1494, 1495, 1496, 1497, 1498, 1499, 1500, 1501] (by decide +kernel) (by decide +kernel)
set_option maxRecDepth 20000 in
theorem gL_law_X12_place : GoodIn wsL_law (wsV RL 69 RX12 yX12_place wsX12_place) := goodIn_app (goodIn_of _ (by decide +kernel)) ggL_law_X12_place
set_option maxRecDepth 20000 in
theorem ggL_law_X11_exit : GoodIn wsL_law wsX11_exit := goodIn_r _ [697, 16, 24, 295, 296, 297, 15, 298, 283, 251, 252, 2, 253, 327, 328, 329, 330, 51, 53, 331, 332, 333, 334, 44, 43, 698, 699, 700, 23, 701, 94, 92, 93, 95, 1422, 1423, 1424, 1425, 1426, 1427, 1428, 1429, 1430, 1431, 1432, 1502, 1503, 1504, 1505, 1506, 1507, 1508, 1524, 1525, 1526, 1527, 1528, 1529, 1530, 1531, 1532, 1533, 1534] (by decide +kernel) (by decide +kernel)
