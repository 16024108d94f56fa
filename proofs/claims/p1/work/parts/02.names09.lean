theorem dX10_addObject_27 : decode cX10_addObject 27 = .ok (.iadd, 1) := by decide +kernel
theorem dX10_addObject_28 : decode cX10_addObject 28 = .ok (.putfield 37, 3) := by decide +kernel
theorem dX10_addObject_31 : decode cX10_addObject 31 = .ok (.ireturn, 1) := by decide +kernel
theorem dX10_changeStandard_0 : decode cX10_changeStandard 0 = .ok (.aload_n 0, 1) := by decide +kernel
theorem dX10_changeStandard_1 : decode cX10_changeStandard 1 = .ok (.getfield 18, 3) := by decide +kernel
theorem dX10_changeStandard_4 : decode cX10_changeStandard 4 = .ok (.iload_n 1, 1) := by decide +kernel
theorem dX10_changeStandard_5 : decode cX10_changeStandard 5 = .ok (.bipush 6, 2) := by decide +kernel
theorem dX10_changeStandard_7 : decode cX10_changeStandard 7 = .ok (.imul, 1) := by decide +kernel
theorem dX10_changeStandard_8 : decode cX10_changeStandard 8 = .ok (.iload_n 2, 1) := by decide +kernel
theorem dX10_changeStandard_9 : decode cX10_changeStandard 9 = .ok (.iadd, 1) := by decide +kernel
theorem dX10_changeStandard_10 : decode cX10_changeStandard 10 = .ok (.iaload, 1) := by decide +kernel
theorem dX10_changeStandard_11 : decode cX10_changeStandard 11 = .ok (.istore 4, 2) := by decide +kernel
theorem dX10_changeStandard_13 : decode cX10_changeStandard 13 = .ok (.aload_n 0, 1) := by decide +kernel
theorem dX10_changeStandard_14 : decode cX10_changeStandard 14 = .ok (.getfield 18, 3) := by decide +kernel
theorem dX10_changeStandard_17 : decode cX10_changeStandard 17 = .ok (.iload_n 1, 1) := by decide +kernel
theorem dX10_changeStandard_18 : decode cX10_changeStandard 18 = .ok (.bipush 6, 2) := by decide +kernel
theorem dX10_changeStandard_20 : decode cX10_changeStandard 20 = .ok (.imul, 1) := by decide +kernel
theorem dX10_changeStandard_21 : decode cX10_changeStandard 21 = .ok (.iload_n 2, 1) := by decide +kernel
theorem dX10_changeStandard_22 : decode cX10_changeStandard 22 = .ok (.iadd, 1) := by decide +kernel
theorem dX10_changeStandard_23 : decode cX10_changeStandard 23 = .ok (.iload_n 3, 1) := by decide +kernel
theorem dX10_changeStandard_24 : decode cX10_changeStandard 24 = .ok (.iastore, 1) := by decide +kernel
theorem dX10_changeStandard_25 : decode cX10_changeStandard 25 = .ok (.iload 4, 2) := by decide +kernel
theorem dX10_changeStandard_27 : decode cX10_changeStandard 27 = .ok (.ireturn, 1) := by decide +kernel
set_option maxRecDepth 20000 in
theorem ggX11_init_X10_init : GoodIn wsX11_init wsX10_init := goodIn_r _ [39, 40, 2, 3, 33, 41, 42, 43, 44, 45, 46, 47, 48, 49, 50, 164, 165, 166, 167, 168, 169, 170] (by decide +kernel) (by decide +kernel)
set_option maxRecDepth 20000 in
theorem gX11_init_X10_init : GoodIn wsX11_init (wsX10_init) := ggX11_init_X10_init
set_option maxRecDepth 20000 in
theorem ggX11_init_X1_init : GoodIn wsX11_init wsX1_init := goodIn_r _ [53, 54, 2, 3, 33, 55, 56, 57, 58, 59, 60, 61, 62, 63, 64, 65, 66, 67, 68, 69, 70, 71, 72, 73, 74, 75, 76, 77, 48, 49, 50, 78, 182, 183, 184, 185, 186, 187, 188, 189, 190, 191, 192, 193, 194, 195, 196, 230, 231] (by decide +kernel) (by decide +kernel)
set_option maxRecDepth 20000 in
theorem gX11_init_X1_init : GoodIn wsX11_init (wsX1_init) := ggX11_init_X1_init
set_option maxRecDepth 20000 in
theorem ggX11_init_X5_init : GoodIn wsX11_init wsX5_init := goodIn_r _ [81, 82, 2, 3, 33, 83, 84, 85, 86, 87, 88, 89, 90, 91, 92, 93, 94, 95, 96, 14, 97, 98, 48, 49, 50, 197, 198, 199, 200, 201, 202, 203, 204, 205, 206, 207] (by decide +kernel) (by decide +kernel)
set_option maxRecDepth 20000 in
theorem gX11_init_X5_init : GoodIn wsX11_init (wsX5_init) := ggX11_init_X5_init
set_option maxRecDepth 20000 in
theorem ggX11_init_X2_init : GoodIn wsX11_init wsX2_init := goodIn_r _ [101, 102, 2, 3, 33, 103, 104, 208, 209, 210, 211] (by decide +kernel) (by decide +kernel)
set_option maxRecDepth 20000 in
theorem gX11_init_X2_init : GoodIn wsX11_init (wsX2_init) := ggX11_init_X2_init
set_option maxRecDepth 20000 in
theorem ggX11_init_X9_init : GoodIn wsX11_init wsX9_init := goodIn_r _ [107, 108, 2, 3, 33, 109, 110, 111, 112, 113, 114, 68, 69, 115, 116, 117, 118, 119, 120, 121, 122, 123, 124, 125, 72, 73, 74, 75, 76, 77, 48, 49, 50, 126, 127, 128, 129, 59, 130, 131, 132, 133, 134, 135, 136, 137, 138, 139, 140, 141, 142, 143, 144, 145, 146, 212, 213, 214, 215, 216, 217, 218, 219, 220, 221, 222, 230, 231, 232, 233, 234, 235, 236, 237, 238, 239, 240, 241, 242, 243, 244] (by decide +kernel) (by decide +kernel)
set_option maxRecDepth 20000 in
theorem gX11_init_X9_init : GoodIn wsX11_init (wsX9_init) := ggX11_init_X9_init
set_option maxRecDepth 20000 in
theorem ggX11_init_X4_init : GoodIn wsX11_init wsX4_init := goodIn_r _ [149, 150, 2, 3, 33, 151, 152, 153, 154, 155, 48, 49, 50, 223, 224, 225] (by decide +kernel) (by decide +kernel)
set_option maxRecDepth 20000 in
theorem gX11_init_X4_init : GoodIn wsX11_init (wsX4_init) := ggX11_init_X4_init
set_option maxRecDepth 20000 in
theorem ggX11_init_X3_init : GoodIn wsX11_init wsX3_init := goodIn_r _ [158, 159, 2, 3, 33, 160, 161, 162, 163, 48, 49, 50, 226, 227, 228, 229] (by decide +kernel) (by decide +kernel)
set_option maxRecDepth 20000 in
theorem gX11_init_X3_init : GoodIn wsX11_init (wsX3_init) := ggX11_init_X3_init
theorem dX11_init_0 : decode cX11_init 0 = .ok (.aload_n 0, 1) := by decide +kernel
theorem dX11_init_1 : decode cX11_init 1 = .ok (.invokespecial 1, 3) := by decide +kernel
theorem dX11_init_4 : decode cX11_init 4 = .ok (.aload_n 0, 1) := by decide +kernel
theorem dX11_init_5 : decode cX11_init 5 = .ok (.new 7, 3) := by decide +kernel
theorem dX11_init_8 : decode cX11_init 8 = .ok (.dup, 1) := by decide +kernel
theorem dX11_init_9 : decode cX11_init 9 = .ok (.invokespecial 9, 3) := by decide +kernel
theorem dX11_init_12 : decode cX11_init 12 = .ok (.putfield 10, 3) := by decide +kernel
theorem dX11_init_15 : decode cX11_init 15 = .ok (.aload_n 0, 1) := by decide +kernel
theorem dX11_init_16 : decode cX11_init 16 = .ok (.new 16, 3) := by decide +kernel
theorem dX11_init_19 : decode cX11_init 19 = .ok (.dup, 1) := by decide +kernel
theorem dX11_init_20 : decode cX11_init 20 = .ok (.aload_n 0, 1) := by decide +kernel
theorem dX11_init_21 : decode cX11_init 21 = .ok (.getfield 10, 3) := by decide +kernel
theorem dX11_init_24 : decode cX11_init 24 = .ok (.invokespecial 18, 3) := by decide +kernel
theorem dX11_init_27 : decode cX11_init 27 = .ok (.putfield 21, 3) := by decide +kernel
theorem dX11_init_30 : decode cX11_init 30 = .ok (.aload_n 0, 1) := by decide +kernel
theorem dX11_init_31 : decode cX11_init 31 = .ok (.new 25, 3) := by decide +kernel
theorem dX11_init_34 : decode cX11_init 34 = .ok (.dup, 1) := by decide +kernel
theorem dX11_init_35 : decode cX11_init 35 = .ok (.aload_n 0, 1) := by decide +kernel
theorem dX11_init_36 : decode cX11_init 36 = .ok (.getfield 10, 3) := by decide +kernel
theorem dX11_init_39 : decode cX11_init 39 = .ok (.aload_n 0, 1) := by decide +kernel
theorem dX11_init_40 : decode cX11_init 40 = .ok (.getfield 21, 3) := by decide +kernel
theorem dX11_init_43 : decode cX11_init 43 = .ok (.invokespecial 27, 3) := by decide +kernel
theorem dX11_init_46 : decode cX11_init 46 = .ok (.putfield 30, 3) := by decide +kernel
theorem dX11_init_49 : decode cX11_init 49 = .ok (.aload_n 0, 1) := by decide +kernel
theorem dX11_init_50 : decode cX11_init 50 = .ok (.new 34, 3) := by decide +kernel
theorem dX11_init_53 : decode cX11_init 53 = .ok (.dup, 1) := by decide +kernel
theorem dX11_init_54 : decode cX11_init 54 = .ok (.aload_n 0, 1) := by decide +kernel
theorem dX11_init_55 : decode cX11_init 55 = .ok (.getfield 10, 3) := by decide +kernel
theorem dX11_init_58 : decode cX11_init 58 = .ok (.invokespecial 36, 3) := by decide +kernel
theorem dX11_init_61 : decode cX11_init 61 = .ok (.putfield 37, 3) := by decide +kernel
theorem dX11_init_64 : decode cX11_init 64 = .ok (.aload_n 0, 1) := by decide +kernel
theorem dX11_init_65 : decode cX11_init 65 = .ok (.new 41, 3) := by decide +kernel
theorem dX11_init_68 : decode cX11_init 68 = .ok (.dup, 1) := by decide +kernel
theorem dX11_init_69 : decode cX11_init 69 = .ok (.aload_n 0, 1) := by decide +kernel
theorem dX11_init_70 : decode cX11_init 70 = .ok (.getfield 10, 3) := by decide +kernel
theorem dX11_init_73 : decode cX11_init 73 = .ok (.aload_n 0, 1) := by decide +kernel
theorem dX11_init_74 : decode cX11_init 74 = .ok (.getfield 21, 3) := by decide +kernel
theorem dX11_init_77 : decode cX11_init 77 = .ok (.aload_n 0, 1) := by decide +kernel
theorem dX11_init_78 : decode cX11_init 78 = .ok (.getfield 30, 3) := by decide +kernel
theorem dX11_init_81 : decode cX11_init 81 = .ok (.aload_n 0, 1) := by decide +kernel
theorem dX11_init_82 : decode cX11_init 82 = .ok (.getfield 37, 3) := by decide +kernel
theorem dX11_init_85 : decode cX11_init 85 = .ok (.invokespecial 43, 3) := by decide +kernel
theorem dX11_init_88 : decode cX11_init 88 = .ok (.putfield 46, 3) := by decide +kernel
theorem dX11_init_91 : decode cX11_init 91 = .ok (.aload_n 0, 1) := by decide +kernel
theorem dX11_init_92 : decode cX11_init 92 = .ok (.new 50, 3) := by decide +kernel
theorem dX11_init_95 : decode cX11_init 95 = .ok (.dup, 1) := by decide +kernel
theorem dX11_init_96 : decode cX11_init 96 = .ok (.invokespecial 52, 3) := by decide +kernel
theorem dX11_init_99 : decode cX11_init 99 = .ok (.putfield 53, 3) := by decide +kernel
theorem dX11_init_102 : decode cX11_init 102 = .ok (.aload_n 0, 1) := by decide +kernel
theorem dX11_init_103 : decode cX11_init 103 = .ok (.new 57, 3) := by decide +kernel
theorem dX11_init_106 : decode cX11_init 106 = .ok (.dup, 1) := by decide +kernel
theorem dX11_init_107 : decode cX11_init 107 = .ok (.invokespecial 59, 3) := by decide +kernel
theorem dX11_init_110 : decode cX11_init 110 = .ok (.putfield 60, 3) := by decide +kernel
theorem dX11_init_113 : decode cX11_init 113 = .ok (.aload_n 0, 1) := by decide +kernel
theorem dX11_init_114 : decode cX11_init 114 = .ok (.aconst_null, 1) := by decide +kernel
theorem dX11_init_115 : decode cX11_init 115 = .ok (.putfield 64, 3) := by decide +kernel
theorem dX11_init_118 : decode cX11_init 118 = .ok (.aload_n 0, 1) := by decide +kernel
theorem dX11_init_119 : decode cX11_init 119 = .ok (.bipush 7, 2) := by decide +kernel
theorem dX11_init_121 : decode cX11_init 121 = .ok (.newarray .int, 2) := by decide +kernel
theorem dX11_init_123 : decode cX11_init 123 = .ok (.putfield 68, 3) := by decide +kernel
theorem dX11_init_126 : decode cX11_init 126 = .ok (.aload_n 0, 1) := by decide +kernel
theorem dX11_init_127 : decode cX11_init 127 = .ok (.iconst 0, 1) := by decide +kernel
theorem dX11_init_128 : decode cX11_init 128 = .ok (.putfield 72, 3) := by decide +kernel
theorem dX11_init_131 : decode cX11_init 131 = .ok (.aload_n 0, 1) := by decide +kernel
theorem dX11_init_132 : decode cX11_init 132 = .ok (.lconst 0, 1) := by decide +kernel
theorem dX11_init_133 : decode cX11_init 133 = .ok (.putfield 76, 3) := by decide +kernel
theorem dX11_init_136 : decode cX11_init 136 = .ok (.return_, 1) := by decide +kernel
set_option maxRecDepth 20000 in
theorem ggX11_kind_X10_hasKind : GoodIn wsX11_kind wsX10_hasKind := goodIn_r _ [7, 8, 26, 27, 28, 29, 30, 31, 32] (by decide +kernel) (by decide +kernel)
set_option maxRecDepth 20000 in
theorem gX11_kind_X10_hasKind : GoodIn wsX11_kind (wsV RX11 80 RX10 yX10_hasKind wsX10_hasKind) := goodIn_app (goodIn_of _ (by decide +kernel)) ggX11_kind_X10_hasKind
set_option maxRecDepth 20000 in
theorem ggX11_kind_X10_addKind : GoodIn wsX11_kind wsX10_addKind := goodIn_r _ [12, 13, 8, 14, 26, 27, 28, 29, 30, 31, 32] (by decide +kernel) (by decide +kernel)
set_option maxRecDepth 20000 in
theorem gX11_kind_X10_addKind : GoodIn wsX11_kind (wsV RX11 87 RX10 yX10_addKind wsX10_addKind) := goodIn_app (goodIn_of _ (by decide +kernel)) ggX11_kind_X10_addKind
theorem dX11_kind_0 : decode cX11_kind 0 = .ok (.aload_n 0, 1) := by decide +kernel
theorem dX11_kind_1 : decode cX11_kind 1 = .ok (.getfield 10, 3) := by decide +kernel
theorem dX11_kind_4 : decode cX11_kind 4 = .ok (.iload_n 1, 1) := by decide +kernel
theorem dX11_kind_5 : decode cX11_kind 5 = .ok (.invokevirtual 80, 3) := by decide +kernel
theorem dX11_kind_8 : decode cX11_kind 8 = .ok (.ifCond .ne 5, 3) := by decide +kernel
theorem dX11_kind_11 : decode cX11_kind 11 = .ok (.iconst (-1), 1) := by decide +kernel
theorem dX11_kind_12 : decode cX11_kind 12 = .ok (.ireturn, 1) := by decide +kernel
theorem dX11_kind_13 : decode cX11_kind 13 = .ok (.aload_n 0, 1) := by decide +kernel
theorem dX11_kind_14 : decode cX11_kind 14 = .ok (.getfield 10, 3) := by decide +kernel
theorem dX11_kind_17 : decode cX11_kind 17 = .ok (.getfield 84, 3) := by decide +kernel
theorem dX11_kind_20 : decode cX11_kind 20 = .ok (.bipush 24, 2) := by decide +kernel
theorem dX11_kind_22 : decode cX11_kind 22 = .ok (.if_icmp .lt 6, 3) := by decide +kernel
theorem dX11_kind_28 : decode cX11_kind 28 = .ok (.aload_n 0, 1) := by decide +kernel
theorem dX11_kind_29 : decode cX11_kind 29 = .ok (.getfield 10, 3) := by decide +kernel
theorem dX11_kind_32 : decode cX11_kind 32 = .ok (.iload_n 1, 1) := by decide +kernel
theorem dX11_kind_33 : decode cX11_kind 33 = .ok (.invokevirtual 87, 3) := by decide +kernel
theorem dX11_kind_36 : decode cX11_kind 36 = .ok (.ireturn, 1) := by decide +kernel
set_option maxRecDepth 20000 in
theorem ggX11_standard_X10_hasKind : GoodIn wsX11_standard wsX10_hasKind := goodIn_r _ [7, 8, 36, 37, 38, 39, 40, 41, 42] (by decide +kernel) (by decide +kernel)
set_option maxRecDepth 20000 in
theorem gX11_standard_X10_hasKind : GoodIn wsX11_standard (wsV RX11 80 RX10 yX10_hasKind wsX10_hasKind) := goodIn_app (goodIn_of _ (by decide +kernel)) ggX11_standard_X10_hasKind
set_option maxRecDepth 20000 in
theorem ggX11_standard_X11_isBelow : GoodIn wsX11_standard wsX11_isBelow := goodIn_r _ [12] (by decide +kernel) (by decide +kernel)
set_option maxRecDepth 20000 in
theorem gX11_standard_X11_isBelow : GoodIn wsX11_standard (va_wsS RX11 91 yX11_isBelow wsX11_isBelow) := goodIn_app (goodIn_of _ (by decide +kernel)) ggX11_standard_X11_isBelow
set_option maxRecDepth 20000 in
theorem ggX11_standard_X9_end : GoodIn wsX11_standard wsX9_end := goodIn_r _ [17, 18, 19, 43, 44, 45, 46, 47, 48, 49, 50, 51, 52, 53] (by decide +kernel) (by decide +kernel)
set_option maxRecDepth 20000 in
theorem gX11_standard_X9_end : GoodIn wsX11_standard (wsV RX11 95 RX9 yX9_end wsX9_end) := goodIn_app (goodIn_of _ (by decide +kernel)) ggX11_standard_X9_end
set_option maxRecDepth 20000 in
theorem ggX11_standard_X10_changeStandard : GoodIn wsX11_standard wsX10_changeStandard := goodIn_r _ [23, 24, 36, 37, 38, 39, 40, 41, 42] (by decide +kernel) (by decide +kernel)
set_option maxRecDepth 20000 in
theorem gX11_standard_X10_changeStandard : GoodIn wsX11_standard (wsV RX11 98 RX10 yX10_changeStandard wsX10_changeStandard) := goodIn_app (goodIn_of _ (by decide +kernel)) ggX11_standard_X10_changeStandard
theorem dX11_standard_0 : decode cX11_standard 0 = .ok (.aload_n 0, 1) := by decide +kernel
theorem dX11_standard_1 : decode cX11_standard 1 = .ok (.getfield 10, 3) := by decide +kernel
theorem dX11_standard_4 : decode cX11_standard 4 = .ok (.iload_n 1, 1) := by decide +kernel
theorem dX11_standard_5 : decode cX11_standard 5 = .ok (.invokevirtual 80, 3) := by decide +kernel
theorem dX11_standard_8 : decode cX11_standard 8 = .ok (.ifCond .eq 27, 3) := by decide +kernel
theorem dX11_standard_11 : decode cX11_standard 11 = .ok (.iload_n 2, 1) := by decide +kernel
theorem dX11_standard_12 : decode cX11_standard 12 = .ok (.bipush 6, 2) := by decide +kernel
theorem dX11_standard_14 : decode cX11_standard 14 = .ok (.invokestatic 91, 3) := by decide +kernel
theorem dX11_standard_17 : decode cX11_standard 17 = .ok (.ifCond .eq 18, 3) := by decide +kernel
theorem dX11_standard_20 : decode cX11_standard 20 = .ok (.iload_n 3, 1) := by decide +kernel
theorem dX11_standard_21 : decode cX11_standard 21 = .ok (.ifCond .eq 16, 3) := by decide +kernel
theorem dX11_standard_24 : decode cX11_standard 24 = .ok (.iload_n 3, 1) := by decide +kernel
theorem dX11_standard_25 : decode cX11_standard 25 = .ok (.iconst 1, 1) := by decide +kernel
theorem dX11_standard_26 : decode cX11_standard 26 = .ok (.if_icmp .eq 11, 3) := by decide +kernel
theorem dX11_standard_29 : decode cX11_standard 29 = .ok (.iload_n 3, 1) := by decide +kernel
theorem dX11_standard_30 : decode cX11_standard 30 = .ok (.bipush (-9), 2) := by decide +kernel
theorem dX11_standard_32 : decode cX11_standard 32 = .ok (.if_icmp .eq 5, 3) := by decide +kernel
theorem dX11_standard_35 : decode cX11_standard 35 = .ok (.iconst (-1), 1) := by decide +kernel
theorem dX11_standard_36 : decode cX11_standard 36 = .ok (.ireturn, 1) := by decide +kernel
theorem dX11_standard_37 : decode cX11_standard 37 = .ok (.aload_n 0, 1) := by decide +kernel
theorem dX11_standard_38 : decode cX11_standard 38 = .ok (.getfield 46, 3) := by decide +kernel
theorem dX11_standard_41 : decode cX11_standard 41 = .ok (.invokevirtual 95, 3) := by decide +kernel
theorem dX11_standard_44 : decode cX11_standard 44 = .ok (.aload_n 0, 1) := by decide +kernel
theorem dX11_standard_45 : decode cX11_standard 45 = .ok (.getfield 10, 3) := by decide +kernel
theorem dX11_standard_48 : decode cX11_standard 48 = .ok (.iload_n 1, 1) := by decide +kernel
theorem dX11_standard_49 : decode cX11_standard 49 = .ok (.iload_n 2, 1) := by decide +kernel
theorem dX11_standard_50 : decode cX11_standard 50 = .ok (.iload_n 3, 1) := by decide +kernel
theorem dX11_standard_51 : decode cX11_standard 51 = .ok (.invokevirtual 98, 3) := by decide +kernel
theorem dX11_standard_54 : decode cX11_standard 54 = .ok (.ireturn, 1) := by decide +kernel
set_option maxRecDepth 20000 in
theorem ggX11_make_X10_hasKind : GoodIn wsX11_make wsX10_hasKind := goodIn_r _ [8, 9, 35, 36, 37, 38, 39, 40, 41] (by decide +kernel) (by decide +kernel)
set_option maxRecDepth 20000 in
theorem gX11_make_X10_hasKind : GoodIn wsX11_make (wsV RX11 80 RX10 yX10_hasKind wsX10_hasKind) := goodIn_app (goodIn_of _ (by decide +kernel)) ggX11_make_X10_hasKind
set_option maxRecDepth 20000 in
theorem ggX11_make_X9_end : GoodIn wsX11_make wsX9_end := goodIn_r _ [14, 15, 16, 42, 43, 44, 45, 46, 47, 48, 49, 50, 51, 52] (by decide +kernel) (by decide +kernel)
set_option maxRecDepth 20000 in
theorem gX11_make_X9_end : GoodIn wsX11_make (wsV RX11 95 RX9 yX9_end wsX9_end) := goodIn_app (goodIn_of _ (by decide +kernel)) ggX11_make_X9_end
set_option maxRecDepth 20000 in
theorem ggX11_make_X10_addObject : GoodIn wsX11_make wsX10_addObject := goodIn_r _ [20, 21, 22, 23, 35, 36, 37, 38, 39, 40, 41] (by decide +kernel) (by decide +kernel)
set_option maxRecDepth 20000 in
theorem gX11_make_X10_addObject : GoodIn wsX11_make (wsV RX11 105 RX10 yX10_addObject wsX10_addObject) := goodIn_app (goodIn_of _ (by decide +kernel)) ggX11_make_X10_addObject
theorem dX11_make_0 : decode cX11_make 0 = .ok (.aload_n 0, 1) := by decide +kernel
theorem dX11_make_1 : decode cX11_make 1 = .ok (.getfield 10, 3) := by decide +kernel
theorem dX11_make_4 : decode cX11_make 4 = .ok (.iload_n 1, 1) := by decide +kernel
theorem dX11_make_5 : decode cX11_make 5 = .ok (.invokevirtual 80, 3) := by decide +kernel
theorem dX11_make_8 : decode cX11_make 8 = .ok (.ifCond .eq 13, 3) := by decide +kernel
theorem dX11_make_11 : decode cX11_make 11 = .ok (.iload_n 2, 1) := by decide +kernel
theorem dX11_make_12 : decode cX11_make 12 = .ok (.ifCond .lt 9, 3) := by decide +kernel
theorem dX11_make_15 : decode cX11_make 15 = .ok (.iload_n 2, 1) := by decide +kernel
theorem dX11_make_16 : decode cX11_make 16 = .ok (.bipush 99, 2) := by decide +kernel
theorem dX11_make_18 : decode cX11_make 18 = .ok (.if_icmp .le 5, 3) := by decide +kernel
theorem dX11_make_21 : decode cX11_make 21 = .ok (.iconst (-1), 1) := by decide +kernel
theorem dX11_make_22 : decode cX11_make 22 = .ok (.ireturn, 1) := by decide +kernel
theorem dX11_make_23 : decode cX11_make 23 = .ok (.aload_n 0, 1) := by decide +kernel
theorem dX11_make_24 : decode cX11_make 24 = .ok (.getfield 10, 3) := by decide +kernel
theorem dX11_make_27 : decode cX11_make 27 = .ok (.getfield 102, 3) := by decide +kernel
theorem dX11_make_30 : decode cX11_make 30 = .ok (.bipush 30, 2) := by decide +kernel
theorem dX11_make_32 : decode cX11_make 32 = .ok (.if_icmp .lt 6, 3) := by decide +kernel
theorem dX11_make_38 : decode cX11_make 38 = .ok (.aload_n 0, 1) := by decide +kernel
theorem dX11_make_39 : decode cX11_make 39 = .ok (.getfield 46, 3) := by decide +kernel
theorem dX11_make_42 : decode cX11_make 42 = .ok (.invokevirtual 95, 3) := by decide +kernel
theorem dX11_make_45 : decode cX11_make 45 = .ok (.aload_n 0, 1) := by decide +kernel
theorem dX11_make_46 : decode cX11_make 46 = .ok (.getfield 10, 3) := by decide +kernel
theorem dX11_make_49 : decode cX11_make 49 = .ok (.iload_n 1, 1) := by decide +kernel
theorem dX11_make_50 : decode cX11_make 50 = .ok (.iload_n 2, 1) := by decide +kernel
theorem dX11_make_51 : decode cX11_make 51 = .ok (.invokevirtual 105, 3) := by decide +kernel
theorem dX11_make_54 : decode cX11_make 54 = .ok (.ireturn, 1) := by decide +kernel
set_option maxRecDepth 20000 in
theorem ggX11_is_X10_hasObject : GoodIn wsX11_is wsX10_hasObject := goodIn_r _ [7, 8, 34, 35, 36, 37, 38, 39, 40] (by decide +kernel) (by decide +kernel)
set_option maxRecDepth 20000 in
theorem gX11_is_X10_hasObject : GoodIn wsX11_is (wsV RX11 109 RX10 yX10_hasObject wsX10_hasObject) := goodIn_app (goodIn_of _ (by decide +kernel)) ggX11_is_X10_hasObject
theorem dX11_is_0 : decode cX11_is 0 = .ok (.aload_n 0, 1) := by decide +kernel
theorem dX11_is_1 : decode cX11_is 1 = .ok (.getfield 10, 3) := by decide +kernel
theorem dX11_is_4 : decode cX11_is 4 = .ok (.iload_n 1, 1) := by decide +kernel
theorem dX11_is_5 : decode cX11_is 5 = .ok (.invokevirtual 109, 3) := by decide +kernel
theorem dX11_is_8 : decode cX11_is 8 = .ok (.ifCond .eq 14, 3) := by decide +kernel
theorem dX11_is_22 : decode cX11_is 22 = .ok (.iconst (-1), 1) := by decide +kernel
theorem dX11_is_23 : decode cX11_is 23 = .ok (.ireturn, 1) := by decide +kernel
set_option maxRecDepth 20000 in
theorem ggX11_bulk_X10_hasObject : GoodIn wsX11_bulk wsX10_hasObject := goodIn_r _ [8, 9, 82, 83, 84, 85, 86, 87, 88] (by decide +kernel) (by decide +kernel)
set_option maxRecDepth 20000 in
theorem gX11_bulk_X10_hasObject : GoodIn wsX11_bulk (wsV RX11 109 RX10 yX10_hasObject wsX10_hasObject) := goodIn_app (goodIn_of _ (by decide +kernel)) ggX11_bulk_X10_hasObject
theorem dX11_bulk_0 : decode cX11_bulk 0 = .ok (.aload_n 0, 1) := by decide +kernel
theorem dX11_bulk_1 : decode cX11_bulk 1 = .ok (.getfield 10, 3) := by decide +kernel
theorem dX11_bulk_4 : decode cX11_bulk 4 = .ok (.iload_n 1, 1) := by decide +kernel
theorem dX11_bulk_5 : decode cX11_bulk 5 = .ok (.invokevirtual 109, 3) := by decide +kernel
theorem dX11_bulk_8 : decode cX11_bulk 8 = .ok (.ifCond .ne 5, 3) := by decide +kernel
theorem dX11_bulk_11 : decode cX11_bulk 11 = .ok (.iconst (-1), 1) := by decide +kernel
theorem dX11_bulk_12 : decode cX11_bulk 12 = .ok (.ireturn, 1) := by decide +kernel
theorem dX11_asked_0 : decode cX11_asked 0 = .ok (.aload_n 0, 1) := by decide +kernel
theorem dX11_asked_1 : decode cX11_asked 1 = .ok (.getfield 76, 3) := by decide +kernel
theorem dX11_asked_4 : decode cX11_asked 4 = .ok (.lreturn, 1) := by decide +kernel
set_option maxRecDepth 20000 in
theorem ggX11_trace_X11_isBelow : GoodIn wsX11_trace wsX11_isBelow := goodIn_r _ [7] (by decide +kernel) (by decide +kernel)
set_option maxRecDepth 20000 in
theorem gX11_trace_X11_isBelow : GoodIn wsX11_trace (va_wsS RX11 91 yX11_isBelow wsX11_isBelow) := goodIn_app (goodIn_of _ (by decide +kernel)) ggX11_trace_X11_isBelow
theorem dX11_trace_0 : decode cX11_trace 0 = .ok (.iload_n 1, 1) := by decide +kernel
theorem dX11_trace_1 : decode cX11_trace 1 = .ok (.aload_n 0, 1) := by decide +kernel
theorem dX11_trace_2 : decode cX11_trace 2 = .ok (.getfield 37, 3) := by decide +kernel
theorem dX11_trace_5 : decode cX11_trace 5 = .ok (.getfield 139, 3) := by decide +kernel
theorem dX11_trace_8 : decode cX11_trace 8 = .ok (.invokestatic 91, 3) := by decide +kernel
theorem dX11_trace_11 : decode cX11_trace 11 = .ok (.ifCond .eq 15, 3) := by decide +kernel
theorem dX11_trace_26 : decode cX11_trace 26 = .ok (.bipush (-9), 2) := by decide +kernel
theorem dX11_trace_28 : decode cX11_trace 28 = .ok (.ireturn, 1) := by decide +kernel
set_option maxRecDepth 20000 in
theorem ggX11_share_X10_hasObject : GoodIn wsX11_share wsX10_hasObject := goodIn_r _ [9, 10, 87, 88, 89, 90, 91, 92, 93] (by decide +kernel) (by decide +kernel)
set_option maxRecDepth 20000 in
theorem gX11_share_X10_hasObject : GoodIn wsX11_share (wsV RX11 109 RX10 yX10_hasObject wsX10_hasObject) := goodIn_app (goodIn_of _ (by decide +kernel)) ggX11_share_X10_hasObject
theorem dX11_share_0 : decode cX11_share 0 = .ok (.aload_n 0, 1) := by decide +kernel
theorem dX11_share_1 : decode cX11_share 1 = .ok (.getfield 10, 3) := by decide +kernel
theorem dX11_share_4 : decode cX11_share 4 = .ok (.iload_n 1, 1) := by decide +kernel
theorem dX11_share_5 : decode cX11_share 5 = .ok (.invokevirtual 109, 3) := by decide +kernel
theorem dX11_share_8 : decode cX11_share 8 = .ok (.ifCond .eq 14, 3) := by decide +kernel
theorem dX11_share_22 : decode cX11_share 22 = .ok (.iconst (-1), 1) := by decide +kernel
theorem dX11_share_23 : decode cX11_share 23 = .ok (.ireturn, 1) := by decide +kernel
set_option maxRecDepth 20000 in
theorem ggX11_say_X1_clearClash : GoodIn wsX11_say wsX1_clearClash := goodIn_r _ [9, 10, 204, 205, 206, 207, 208, 209, 210, 211, 212, 213, 214, 215, 216, 217, 218] (by decide +kernel) (by decide +kernel)
set_option maxRecDepth 20000 in
theorem gX11_say_X1_clearClash : GoodIn wsX11_say (wsV RX11 153 RX1 yX1_clearClash wsX1_clearClash) := goodIn_app (goodIn_of _ (by decide +kernel)) ggX11_say_X1_clearClash
set_option maxRecDepth 20000 in
theorem ggX11_say_X1_isWellFormed : GoodIn wsX11_say wsX1_isWellFormed := goodIn_r _ [14, 15, 16, 17, 18, 19, 20, 21, 22, 23, 24, 204, 205, 206, 207, 208, 209, 210, 211, 212, 213, 214, 215, 216, 217, 218, 219, 220, 221, 222, 223, 224, 225] (by decide +kernel) (by decide +kernel)
set_option maxRecDepth 20000 in
theorem gX11_say_X1_isWellFormed : GoodIn wsX11_say (wsV RX11 156 RX1 yX1_isWellFormed wsX1_isWellFormed) := goodIn_app (goodIn_of _ (by decide +kernel)) ggX11_say_X1_isWellFormed
theorem dX11_say_0 : decode cX11_say 0 = .ok (.aload_n 0, 1) := by decide +kernel
theorem dX11_say_1 : decode cX11_say 1 = .ok (.getfield 21, 3) := by decide +kernel
theorem dX11_say_4 : decode cX11_say 4 = .ok (.invokevirtual 153, 3) := by decide +kernel
theorem dX11_say_7 : decode cX11_say 7 = .ok (.aload_n 0, 1) := by decide +kernel
theorem dX11_say_8 : decode cX11_say 8 = .ok (.getfield 21, 3) := by decide +kernel
theorem dX11_say_11 : decode cX11_say 11 = .ok (.iload_n 1, 1) := by decide +kernel
theorem dX11_say_12 : decode cX11_say 12 = .ok (.iload_n 2, 1) := by decide +kernel
theorem dX11_say_13 : decode cX11_say 13 = .ok (.iload_n 3, 1) := by decide +kernel
theorem dX11_say_14 : decode cX11_say 14 = .ok (.iload 4, 2) := by decide +kernel
theorem dX11_say_16 : decode cX11_say 16 = .ok (.invokevirtual 156, 3) := by decide +kernel
theorem dX11_say_19 : decode cX11_say 19 = .ok (.ifCond .ne 5, 3) := by decide +kernel
theorem dX11_say_22 : decode cX11_say 22 = .ok (.iconst (-1), 1) := by decide +kernel
theorem dX11_say_23 : decode cX11_say 23 = .ok (.ireturn, 1) := by decide +kernel
set_option maxRecDepth 20000 in
theorem ggX11_unsay_X11_isBelow : GoodIn wsX11_unsay wsX11_isBelow := goodIn_r _ [11] (by decide +kernel) (by decide +kernel)
set_option maxRecDepth 20000 in
theorem gX11_unsay_X11_isBelow : GoodIn wsX11_unsay (va_wsS RX11 91 yX11_isBelow wsX11_isBelow) := goodIn_app (goodIn_of _ (by decide +kernel)) ggX11_unsay_X11_isBelow
theorem dX11_unsay_0 : decode cX11_unsay 0 = .ok (.iload_n 1, 1) := by decide +kernel
theorem dX11_unsay_1 : decode cX11_unsay 1 = .ok (.aload_n 0, 1) := by decide +kernel
theorem dX11_unsay_2 : decode cX11_unsay 2 = .ok (.getfield 21, 3) := by decide +kernel
theorem dX11_unsay_5 : decode cX11_unsay 5 = .ok (.getfield 168, 3) := by decide +kernel
theorem dX11_unsay_8 : decode cX11_unsay 8 = .ok (.invokestatic 91, 3) := by decide +kernel
theorem dX11_unsay_11 : decode cX11_unsay 11 = .ok (.ifCond .eq 15, 3) := by decide +kernel
theorem dX11_unsay_26 : decode cX11_unsay 26 = .ok (.iconst (-1), 1) := by decide +kernel
theorem dX11_unsay_27 : decode cX11_unsay 27 = .ok (.ireturn, 1) := by decide +kernel
set_option maxRecDepth 20000 in
theorem ggX11_clash_X11_isBelow : GoodIn wsX11_clash wsX11_isBelow := goodIn_r _ [7] (by decide +kernel) (by decide +kernel)
set_option maxRecDepth 20000 in
theorem gX11_clash_X11_isBelow : GoodIn wsX11_clash (va_wsS RX11 91 yX11_isBelow wsX11_isBelow) := goodIn_app (goodIn_of _ (by decide +kernel)) ggX11_clash_X11_isBelow
theorem dX11_clash_0 : decode cX11_clash 0 = .ok (.iload_n 1, 1) := by decide +kernel
theorem dX11_clash_1 : decode cX11_clash 1 = .ok (.aload_n 0, 1) := by decide +kernel
theorem dX11_clash_2 : decode cX11_clash 2 = .ok (.getfield 21, 3) := by decide +kernel
theorem dX11_clash_5 : decode cX11_clash 5 = .ok (.getfield 194, 3) := by decide +kernel
theorem dX11_clash_8 : decode cX11_clash 8 = .ok (.invokestatic 91, 3) := by decide +kernel
theorem dX11_clash_11 : decode cX11_clash 11 = .ok (.ifCond .eq 15, 3) := by decide +kernel
theorem dX11_clash_26 : decode cX11_clash 26 = .ok (.bipush (-9), 2) := by decide +kernel
theorem dX11_clash_28 : decode cX11_clash 28 = .ok (.ireturn, 1) := by decide +kernel
set_option maxRecDepth 20000 in
theorem ggX11_sentence_X11_isBelow : GoodIn wsX11_sentence wsX11_isBelow := goodIn_r _ [6] (by decide +kernel) (by decide +kernel)
set_option maxRecDepth 20000 in
theorem gX11_sentence_X11_isBelow : GoodIn wsX11_sentence (va_wsS RX11 91 yX11_isBelow wsX11_isBelow) := goodIn_app (goodIn_of _ (by decide +kernel)) ggX11_sentence_X11_isBelow
theorem dX11_sentence_0 : decode cX11_sentence 0 = .ok (.iload_n 1, 1) := by decide +kernel
theorem dX11_sentence_1 : decode cX11_sentence 1 = .ok (.aload_n 0, 1) := by decide +kernel
theorem dX11_sentence_2 : decode cX11_sentence 2 = .ok (.getfield 21, 3) := by decide +kernel
theorem dX11_sentence_5 : decode cX11_sentence 5 = .ok (.getfield 168, 3) := by decide +kernel
theorem dX11_sentence_8 : decode cX11_sentence 8 = .ok (.invokestatic 91, 3) := by decide +kernel
theorem dX11_sentence_11 : decode cX11_sentence 11 = .ok (.ifCond .eq 11, 3) := by decide +kernel
theorem dX11_sentence_22 : decode cX11_sentence 22 = .ok (.iconst (-1), 1) := by decide +kernel
theorem dX11_sentence_23 : decode cX11_sentence 23 = .ok (.ireturn, 1) := by decide +kernel
set_option maxRecDepth 20000 in
theorem ggX11_place_X10_hasObject : GoodIn wsX11_place wsX10_hasObject := goodIn_r _ [9, 10, 51, 52, 53, 54, 55, 56, 57] (by decide +kernel) (by decide +kernel)
set_option maxRecDepth 20000 in
theorem gX11_place_X10_hasObject : GoodIn wsX11_place (wsV RX11 109 RX10 yX10_hasObject wsX10_hasObject) := goodIn_app (goodIn_of _ (by decide +kernel)) ggX11_place_X10_hasObject
theorem dX11_place_0 : decode cX11_place 0 = .ok (.aload_n 0, 1) := by decide +kernel
theorem dX11_place_1 : decode cX11_place 1 = .ok (.getfield 10, 3) := by decide +kernel
theorem dX11_place_4 : decode cX11_place 4 = .ok (.iload_n 1, 1) := by decide +kernel
theorem dX11_place_5 : decode cX11_place 5 = .ok (.invokevirtual 109, 3) := by decide +kernel
theorem dX11_place_8 : decode cX11_place 8 = .ok (.ifCond .eq 11, 3) := by decide +kernel
theorem dX11_place_19 : decode cX11_place 19 = .ok (.iconst (-1), 1) := by decide +kernel
theorem dX11_place_20 : decode cX11_place 20 = .ok (.ireturn, 1) := by decide +kernel
set_option maxRecDepth 20000 in
theorem ggX11_exit_X10_hasObject : GoodIn wsX11_exit wsX10_hasObject := goodIn_r _ [7, 8, 45, 46, 47, 48, 49, 50, 51] (by decide +kernel) (by decide +kernel)
set_option maxRecDepth 20000 in
theorem gX11_exit_X10_hasObject : GoodIn wsX11_exit (wsV RX11 109 RX10 yX10_hasObject wsX10_hasObject) := goodIn_app (goodIn_of _ (by decide +kernel)) ggX11_exit_X10_hasObject
theorem dX11_exit_0 : decode cX11_exit 0 = .ok (.aload_n 0, 1) := by decide +kernel
theorem dX11_exit_1 : decode cX11_exit 1 = .ok (.getfield 10, 3) := by decide +kernel
theorem dX11_exit_4 : decode cX11_exit 4 = .ok (.iload_n 1, 1) := by decide +kernel
theorem dX11_exit_5 : decode cX11_exit 5 = .ok (.invokevirtual 109, 3) := by decide +kernel
theorem dX11_exit_8 : decode cX11_exit 8 = .ok (.ifCond .eq 20, 3) := by decide +kernel
theorem dX11_exit_28 : decode cX11_exit 28 = .ok (.iconst (-1), 1) := by decide +kernel
theorem dX11_exit_29 : decode cX11_exit 29 = .ok (.ireturn, 1) := by decide +kernel
set_option maxRecDepth 20000 in
theorem ggX11_flag_X10_hasObject : GoodIn wsX11_flag wsX10_hasObject := goodIn_r _ [7, 8, 66, 67, 68, 69, 70, 71, 72] (by decide +kernel) (by decide +kernel)
set_option maxRecDepth 20000 in
theorem gX11_flag_X10_hasObject : GoodIn wsX11_flag (wsV RX11 109 RX10 yX10_hasObject wsX10_hasObject) := goodIn_app (goodIn_of _ (by decide +kernel)) ggX11_flag_X10_hasObject
theorem dX11_flag_0 : decode cX11_flag 0 = .ok (.aload_n 0, 1) := by decide +kernel
theorem dX11_flag_1 : decode cX11_flag 1 = .ok (.getfield 10, 3) := by decide +kernel
theorem dX11_flag_4 : decode cX11_flag 4 = .ok (.iload_n 1, 1) := by decide +kernel
theorem dX11_flag_5 : decode cX11_flag 5 = .ok (.invokevirtual 109, 3) := by decide +kernel
theorem dX11_flag_8 : decode cX11_flag 8 = .ok (.ifCond .eq 12, 3) := by decide +kernel
theorem dX11_flag_20 : decode cX11_flag 20 = .ok (.iconst (-1), 1) := by decide +kernel
theorem dX11_flag_21 : decode cX11_flag 21 = .ok (.ireturn, 1) := by decide +kernel
set_option maxRecDepth 20000 in
theorem ggX11_key_X10_hasObject : GoodIn wsX11_key wsX10_hasObject := goodIn_r _ [7, 8, 44, 45, 46, 47, 48, 49, 50] (by decide +kernel) (by decide +kernel)
set_option maxRecDepth 20000 in
theorem gX11_key_X10_hasObject : GoodIn wsX11_key (wsV RX11 109 RX10 yX10_hasObject wsX10_hasObject) := goodIn_app (goodIn_of _ (by decide +kernel)) ggX11_key_X10_hasObject
theorem dX11_key_0 : decode cX11_key 0 = .ok (.aload_n 0, 1) := by decide +kernel
theorem dX11_key_1 : decode cX11_key 1 = .ok (.getfield 10, 3) := by decide +kernel
theorem dX11_key_4 : decode cX11_key 4 = .ok (.iload_n 1, 1) := by decide +kernel
theorem dX11_key_5 : decode cX11_key 5 = .ok (.invokevirtual 109, 3) := by decide +kernel
theorem dX11_key_8 : decode cX11_key 8 = .ok (.ifCond .ne 5, 3) := by decide +kernel
theorem dX11_key_11 : decode cX11_key 11 = .ok (.iconst (-1), 1) := by decide +kernel
theorem dX11_key_12 : decode cX11_key 12 = .ok (.ireturn, 1) := by decide +kernel
set_option maxRecDepth 20000 in
theorem ggX11_way_X11_refuseRooms : GoodIn wsX11_way wsX11_refuseRooms := goodIn_r _ [7, 8, 9, 10, 11, 12, 13, 14, 15, 16, 17, 18, 19, 20, 21, 22, 23, 6, 24, 25, 26, 61, 62, 63, 64, 65, 66, 67, 68, 69, 70, 71, 83, 84, 85, 86, 87, 88, 89] (by decide +kernel) (by decide +kernel)
set_option maxRecDepth 20000 in
theorem gX11_way_X11_refuseRooms : GoodIn wsX11_way (wsV RX11 232 RX11 yX11_refuseRooms wsX11_refuseRooms) := goodIn_app (goodIn_of _ (by decide +kernel)) ggX11_way_X11_refuseRooms
theorem dX11_way_0 : decode cX11_way 0 = .ok (.aload_n 0, 1) := by decide +kernel
theorem dX11_way_1 : decode cX11_way 1 = .ok (.iload_n 1, 1) := by decide +kernel
theorem dX11_way_2 : decode cX11_way 2 = .ok (.iload_n 2, 1) := by decide +kernel
theorem dX11_way_3 : decode cX11_way 3 = .ok (.invokevirtual 232, 3) := by decide +kernel
theorem dX11_way_6 : decode cX11_way 6 = .ok (.istore 4, 2) := by decide +kernel
theorem dX11_way_8 : decode cX11_way 8 = .ok (.iload 4, 2) := by decide +kernel
theorem dX11_way_10 : decode cX11_way 10 = .ok (.ifCond .eq 6, 3) := by decide +kernel
theorem dX11_way_13 : decode cX11_way 13 = .ok (.iload 4, 2) := by decide +kernel
theorem dX11_way_15 : decode cX11_way 15 = .ok (.ireturn, 1) := by decide +kernel
set_option maxRecDepth 20000 in
theorem ggX11_toward_X11_refuseRooms : GoodIn wsX11_toward wsX11_refuseRooms := goodIn_r _ [7, 8, 9, 10, 11, 12, 13, 14, 15, 16, 17, 18, 19, 20, 21, 22, 23, 6, 24, 25, 26, 61, 62, 63, 64, 65, 66, 67, 68, 69, 70, 71, 83, 84, 85, 86, 87, 88, 89] (by decide +kernel) (by decide +kernel)
set_option maxRecDepth 20000 in
theorem gX11_toward_X11_refuseRooms : GoodIn wsX11_toward (wsV RX11 232 RX11 yX11_refuseRooms wsX11_refuseRooms) := goodIn_app (goodIn_of _ (by decide +kernel)) ggX11_toward_X11_refuseRooms
theorem dX11_toward_0 : decode cX11_toward 0 = .ok (.aload_n 0, 1) := by decide +kernel
theorem dX11_toward_1 : decode cX11_toward 1 = .ok (.iload_n 1, 1) := by decide +kernel
theorem dX11_toward_2 : decode cX11_toward 2 = .ok (.iload_n 2, 1) := by decide +kernel
theorem dX11_toward_3 : decode cX11_toward 3 = .ok (.invokevirtual 232, 3) := by decide +kernel
theorem dX11_toward_6 : decode cX11_toward 6 = .ok (.istore 4, 2) := by decide +kernel
theorem dX11_toward_8 : decode cX11_toward 8 = .ok (.iload 4, 2) := by decide +kernel
theorem dX11_toward_10 : decode cX11_toward 10 = .ok (.ifCond .eq 6, 3) := by decide +kernel
theorem dX11_toward_13 : decode cX11_toward 13 = .ok (.iload 4, 2) := by decide +kernel
theorem dX11_toward_15 : decode cX11_toward 15 = .ok (.ireturn, 1) := by decide +kernel
set_option maxRecDepth 20000 in
theorem ggX11_begin_X10_hasObject : GoodIn wsX11_begin wsX10_hasObject := goodIn_r _ [9, 10, 158, 159, 160, 161, 162, 163, 164] (by decide +kernel) (by decide +kernel)
set_option maxRecDepth 20000 in
theorem gX11_begin_X10_hasObject : GoodIn wsX11_begin (wsV RX11 109 RX10 yX10_hasObject wsX10_hasObject) := goodIn_app (goodIn_of _ (by decide +kernel)) ggX11_begin_X10_hasObject
theorem dX11_begin_0 : decode cX11_begin 0 = .ok (.aload_n 0, 1) := by decide +kernel
theorem dX11_begin_1 : decode cX11_begin 1 = .ok (.getfield 10, 3) := by decide +kernel
theorem dX11_begin_4 : decode cX11_begin 4 = .ok (.iload_n 1, 1) := by decide +kernel
theorem dX11_begin_5 : decode cX11_begin 5 = .ok (.invokevirtual 109, 3) := by decide +kernel
theorem dX11_begin_8 : decode cX11_begin 8 = .ok (.ifCond .ne 5, 3) := by decide +kernel
theorem dX11_begin_11 : decode cX11_begin 11 = .ok (.iconst (-1), 1) := by decide +kernel
theorem dX11_begin_12 : decode cX11_begin 12 = .ok (.ireturn, 1) := by decide +kernel
set_option maxRecDepth 20000 in
theorem ggX11_act_X9_isAct : GoodIn wsX11_act wsX9_isAct := goodIn_r _ [8, 9, 10, 11, 12, 13, 14, 15, 16, 17, 18, 19, 20, 21, 22, 23, 24, 25, 259, 260, 261, 262, 263, 264, 265, 266, 267, 268, 269, 270, 271, 272, 273, 274, 275, 276] (by decide +kernel) (by decide +kernel)
set_option maxRecDepth 20000 in
theorem gX11_act_X9_isAct : GoodIn wsX11_act (wsV RX11 251 RX9 yX9_isAct wsX9_isAct) := goodIn_app (goodIn_of _ (by decide +kernel)) ggX11_act_X9_isAct
theorem dX11_act_0 : decode cX11_act 0 = .ok (.aload_n 0, 1) := by decide +kernel
theorem dX11_act_1 : decode cX11_act 1 = .ok (.getfield 46, 3) := by decide +kernel
theorem dX11_act_4 : decode cX11_act 4 = .ok (.iload_n 1, 1) := by decide +kernel
theorem dX11_act_5 : decode cX11_act 5 = .ok (.iload_n 2, 1) := by decide +kernel
theorem dX11_act_6 : decode cX11_act 6 = .ok (.iload_n 3, 1) := by decide +kernel
theorem dX11_act_7 : decode cX11_act 7 = .ok (.invokevirtual 251, 3) := by decide +kernel
theorem dX11_act_10 : decode cX11_act 10 = .ok (.ifCond .ne 5, 3) := by decide +kernel
theorem dX11_act_13 : decode cX11_act 13 = .ok (.iconst (-1), 1) := by decide +kernel
theorem dX11_act_14 : decode cX11_act 14 = .ok (.ireturn, 1) := by decide +kernel
theorem dX11_act_15 : decode cX11_act 15 = .ok (.aload_n 0, 1) := by decide +kernel
theorem dX11_act_16 : decode cX11_act 16 = .ok (.getfield 46, 3) := by decide +kernel
theorem dX11_act_19 : decode cX11_act 19 = .ok (.getfield 254, 3) := by decide +kernel
theorem dX11_act_22 : decode cX11_act 22 = .ok (.bipush 100, 2) := by decide +kernel
theorem dX11_act_24 : decode cX11_act 24 = .ok (.if_icmp .lt 6, 3) := by decide +kernel
theorem dX11_act_30 : decode cX11_act 30 = .ok (.aload_n 0, 1) := by decide +kernel
theorem dX11_act_31 : decode cX11_act 31 = .ok (.getfield 46, 3) := by decide +kernel
theorem dX11_act_34 : decode cX11_act 34 = .ok (.getfield 257, 3) := by decide +kernel
theorem dX11_act_37 : decode cX11_act 37 = .ok (.ifCond .ne 6, 3) := by decide +kernel
