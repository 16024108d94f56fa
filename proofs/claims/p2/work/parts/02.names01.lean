theorem dX12_isSide_15 : decode cX12_isSide 15 = .ok (.baload, 1) := by decide +kernel
theorem dX12_isSide_16 : decode cX12_isSide 16 = .ok (.ifCond .eq 35, 3) := by decide +kernel
theorem dX12_isSide_19 : decode cX12_isSide 19 = .ok (.aload_n 0, 1) := by decide +kernel
theorem dX12_isSide_20 : decode cX12_isSide 20 = .ok (.getfield 25, 3) := by decide +kernel
theorem dX12_isSide_23 : decode cX12_isSide 23 = .ok (.iload_n 3, 1) := by decide +kernel
theorem dX12_isSide_24 : decode cX12_isSide 24 = .ok (.iaload, 1) := by decide +kernel
theorem dX12_isSide_25 : decode cX12_isSide 25 = .ok (.iconst 5, 1) := by decide +kernel
theorem dX12_isSide_26 : decode cX12_isSide 26 = .ok (.if_icmp .ne 25, 3) := by decide +kernel
theorem dX12_isSide_29 : decode cX12_isSide 29 = .ok (.aload_n 0, 1) := by decide +kernel
theorem dX12_isSide_30 : decode cX12_isSide 30 = .ok (.getfield 31, 3) := by decide +kernel
theorem dX12_isSide_33 : decode cX12_isSide 33 = .ok (.iload_n 3, 1) := by decide +kernel
theorem dX12_isSide_34 : decode cX12_isSide 34 = .ok (.iaload, 1) := by decide +kernel
theorem dX12_isSide_35 : decode cX12_isSide 35 = .ok (.iload_n 1, 1) := by decide +kernel
theorem dX12_isSide_36 : decode cX12_isSide 36 = .ok (.if_icmp .ne 15, 3) := by decide +kernel
theorem dX12_isSide_39 : decode cX12_isSide 39 = .ok (.aload_n 0, 1) := by decide +kernel
theorem dX12_isSide_40 : decode cX12_isSide 40 = .ok (.getfield 28, 3) := by decide +kernel
theorem dX12_isSide_43 : decode cX12_isSide 43 = .ok (.iload_n 3, 1) := by decide +kernel
theorem dX12_isSide_44 : decode cX12_isSide 44 = .ok (.iaload, 1) := by decide +kernel
theorem dX12_isSide_45 : decode cX12_isSide 45 = .ok (.iload_n 2, 1) := by decide +kernel
theorem dX12_isSide_46 : decode cX12_isSide 46 = .ok (.if_icmp .ne 5, 3) := by decide +kernel
theorem dX12_isSide_49 : decode cX12_isSide 49 = .ok (.iconst 1, 1) := by decide +kernel
theorem dX12_isSide_50 : decode cX12_isSide 50 = .ok (.ireturn, 1) := by decide +kernel
theorem dX12_isSide_51 : decode cX12_isSide 51 = .ok (.iinc 3 1, 3) := by decide +kernel
theorem dX12_isSide_54 : decode cX12_isSide 54 = .ok (.goto (-52), 3) := by decide +kernel
theorem dX12_isSide_57 : decode cX12_isSide 57 = .ok (.iconst 0, 1) := by decide +kernel
theorem dX12_isSide_58 : decode cX12_isSide 58 = .ok (.ireturn, 1) := by decide +kernel
theorem dX12_endTale_0 : decode cX12_endTale 0 = .ok (.aload_n 0, 1) := by decide +kernel
theorem dX12_endTale_1 : decode cX12_endTale 1 = .ok (.bipush (-9), 2) := by decide +kernel
theorem dX12_endTale_3 : decode cX12_endTale 3 = .ok (.putfield 155, 3) := by decide +kernel
theorem dX12_endTale_6 : decode cX12_endTale 6 = .ok (.aload_n 0, 1) := by decide +kernel
theorem dX12_endTale_7 : decode cX12_endTale 7 = .ok (.iconst 0, 1) := by decide +kernel
theorem dX12_endTale_8 : decode cX12_endTale 8 = .ok (.putfield 291, 3) := by decide +kernel
theorem dX12_endTale_11 : decode cX12_endTale 11 = .ok (.return_, 1) := by decide +kernel
theorem dX12_hasSecond_0 : decode cX12_hasSecond 0 = .ok (.iload_n 0, 1) := by decide +kernel
theorem dX12_hasSecond_1 : decode cX12_hasSecond 1 = .ok (.iconst 3, 1) := by decide +kernel
theorem dX12_hasSecond_2 : decode cX12_hasSecond 2 = .ok (.if_icmp .eq 20, 3) := by decide +kernel
theorem dX12_hasSecond_5 : decode cX12_hasSecond 5 = .ok (.iload_n 0, 1) := by decide +kernel
theorem dX12_hasSecond_6 : decode cX12_hasSecond 6 = .ok (.iconst 4, 1) := by decide +kernel
theorem dX12_hasSecond_7 : decode cX12_hasSecond 7 = .ok (.if_icmp .eq 15, 3) := by decide +kernel
theorem dX12_hasSecond_10 : decode cX12_hasSecond 10 = .ok (.iload_n 0, 1) := by decide +kernel
theorem dX12_hasSecond_11 : decode cX12_hasSecond 11 = .ok (.bipush 7, 2) := by decide +kernel
theorem dX12_hasSecond_13 : decode cX12_hasSecond 13 = .ok (.if_icmp .eq 9, 3) := by decide +kernel
theorem dX12_hasSecond_16 : decode cX12_hasSecond 16 = .ok (.iload_n 0, 1) := by decide +kernel
theorem dX12_hasSecond_17 : decode cX12_hasSecond 17 = .ok (.bipush 8, 2) := by decide +kernel
theorem dX12_hasSecond_19 : decode cX12_hasSecond 19 = .ok (.if_icmp .ne 7, 3) := by decide +kernel
theorem dX12_hasSecond_22 : decode cX12_hasSecond 22 = .ok (.iconst 1, 1) := by decide +kernel
theorem dX12_hasSecond_23 : decode cX12_hasSecond 23 = .ok (.goto 4, 3) := by decide +kernel
theorem dX12_hasSecond_26 : decode cX12_hasSecond 26 = .ok (.iconst 0, 1) := by decide +kernel
theorem dX12_hasSecond_27 : decode cX12_hasSecond 27 = .ok (.ireturn, 1) := by decide +kernel
abbrev vwCl : List vw_C := [(RX0, TX0, 7), (RX1, TX1, 15), (RX2, TX2, 4), (RX3, TX3, 4), (RX4, TX4, 3), (RX5, TX5, 11), (RX6, TX6, 2), (RX7, TX7, 15), (RX8, TX8, 6), (RX9, TX9, 11), (RX10, TX10, 7), (RX11, TX11, 11), (RX12, TX12, 69)]
