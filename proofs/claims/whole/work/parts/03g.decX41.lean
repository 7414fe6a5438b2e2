theorem dX4_told_1 : decode cX4_told 1 = .ok (.getfield 21, 3) := by decide +kernel
theorem dX4_told_4 : decode cX4_told 4 = .ok (.invokevirtual 104, 3) := by decide +kernel
theorem dX4_told_7 : decode cX4_told 7 = .ok (.iload_n 1, 1) := by decide +kernel
theorem dX4_told_8 : decode cX4_told 8 = .ok (.tableswitch 88 0 5 #[40, 48, 56, 64, 72, 80], 40) := by decide +kernel
theorem dX4_told_48 : decode cX4_told 48 = .ok (.aload_n 0, 1) := by decide +kernel
theorem dX4_told_49 : decode cX4_told 49 = .ok (.getfield 12, 3) := by decide +kernel
theorem dX4_told_52 : decode cX4_told 52 = .ok (.getfield 55, 3) := by decide +kernel
theorem dX4_told_55 : decode cX4_told 55 = .ok (.ireturn, 1) := by decide +kernel
theorem dX4_told_56 : decode cX4_told 56 = .ok (.aload_n 0, 1) := by decide +kernel
theorem dX4_told_57 : decode cX4_told 57 = .ok (.getfield 12, 3) := by decide +kernel
theorem dX4_told_60 : decode cX4_told 60 = .ok (.invokevirtual 157, 3) := by decide +kernel
theorem dX4_told_63 : decode cX4_told 63 = .ok (.ireturn, 1) := by decide +kernel
theorem dX4_told_64 : decode cX4_told 64 = .ok (.aload_n 0, 1) := by decide +kernel
theorem dX4_told_65 : decode cX4_told 65 = .ok (.getfield 21, 3) := by decide +kernel
theorem dX4_told_68 : decode cX4_told 68 = .ok (.getfield 160, 3) := by decide +kernel
theorem dX4_told_71 : decode cX4_told 71 = .ok (.ireturn, 1) := by decide +kernel
theorem dX4_told_72 : decode cX4_told 72 = .ok (.aload_n 0, 1) := by decide +kernel
theorem dX4_told_73 : decode cX4_told 73 = .ok (.getfield 21, 3) := by decide +kernel
theorem dX4_told_76 : decode cX4_told 76 = .ok (.getfield 110, 3) := by decide +kernel
theorem dX4_told_79 : decode cX4_told 79 = .ok (.ireturn, 1) := by decide +kernel
theorem dX4_told_80 : decode cX4_told 80 = .ok (.aload_n 0, 1) := by decide +kernel
theorem dX4_told_81 : decode cX4_told 81 = .ok (.getfield 21, 3) := by decide +kernel
theorem dX4_told_84 : decode cX4_told 84 = .ok (.getfield 163, 3) := by decide +kernel
theorem dX4_told_87 : decode cX4_told 87 = .ok (.ireturn, 1) := by decide +kernel
theorem dX4_told_88 : decode cX4_told 88 = .ok (.aload_n 0, 1) := by decide +kernel
theorem dX4_told_89 : decode cX4_told 89 = .ok (.getfield 12, 3) := by decide +kernel
theorem dX4_told_92 : decode cX4_told 92 = .ok (.getfield 48, 3) := by decide +kernel
theorem dX4_told_95 : decode cX4_told 95 = .ok (.ireturn, 1) := by decide +kernel
theorem dX4_told_96 : decode cX4_told 96 = .ok (.new 41, 3) := by decide +kernel
theorem dX4_told_99 : decode cX4_told 99 = .ok (.dup, 1) := by decide +kernel
theorem dX4_told_100 : decode cX4_told 100 = .ok (.ldc 166, 2) := by decide +kernel
theorem dX4_told_102 : decode cX4_told 102 = .ok (.invokespecial 45, 3) := by decide +kernel
theorem dX4_told_105 : decode cX4_told 105 = .ok (.athrow, 1) := by decide +kernel
set_option maxRecDepth 20000 in
theorem ggX4_forgetFindings_X1_clear : GoodIn wsX4_forgetFindings wsX1_clear := goodIn_r _ [10, 11, 12, 31, 32, 33, 34, 35, 36] (by decide +kernel) (by decide +kernel)
set_option maxRecDepth 20000 in
theorem gX4_forgetFindings_X1_clear : GoodIn wsX4_forgetFindings (wsV RX4 173 RX1 yX1_clear wsX1_clear) := goodIn_app (goodIn_of _ (by decide +kernel)) ggX4_forgetFindings_X1_clear
theorem dX4_forgetFindings_0 : decode cX4_forgetFindings 0 = .ok (.aload_n 0, 1) := by decide +kernel
theorem dX4_forgetFindings_1 : decode cX4_forgetFindings 1 = .ok (.getfield 21, 3) := by decide +kernel
theorem dX4_forgetFindings_4 : decode cX4_forgetFindings 4 = .ok (.iconst 0, 1) := by decide +kernel
theorem dX4_forgetFindings_5 : decode cX4_forgetFindings 5 = .ok (.putfield 168, 3) := by decide +kernel
theorem dX4_forgetFindings_8 : decode cX4_forgetFindings 8 = .ok (.aload_n 0, 1) := by decide +kernel
theorem dX4_forgetFindings_9 : decode cX4_forgetFindings 9 = .ok (.getfield 37, 3) := by decide +kernel
theorem dX4_forgetFindings_12 : decode cX4_forgetFindings 12 = .ok (.iconst 0, 1) := by decide +kernel
theorem dX4_forgetFindings_13 : decode cX4_forgetFindings 13 = .ok (.putfield 172, 3) := by decide +kernel
theorem dX4_forgetFindings_16 : decode cX4_forgetFindings 16 = .ok (.aload_n 0, 1) := by decide +kernel
theorem dX4_forgetFindings_17 : decode cX4_forgetFindings 17 = .ok (.getfield 30, 3) := by decide +kernel
theorem dX4_forgetFindings_20 : decode cX4_forgetFindings 20 = .ok (.invokevirtual 173, 3) := by decide +kernel
theorem dX4_forgetFindings_23 : decode cX4_forgetFindings 23 = .ok (.return_, 1) := by decide +kernel
set_option maxRecDepth 20000 in
theorem ggX4_needSlot_X2_hasShape : GoodIn wsX4_needSlot wsX2_hasShape := goodIn_r _ [9, 10, 18, 19, 20, 21, 22, 23, 24, 25, 26] (by decide +kernel) (by decide +kernel)
set_option maxRecDepth 20000 in
theorem gX4_needSlot_X2_hasShape : GoodIn wsX4_needSlot (wsV RX4 63 RX2 yX2_hasShape wsX2_hasShape) := goodIn_app (goodIn_of _ (by decide +kernel)) ggX4_needSlot_X2_hasShape
set_option maxRecDepth 20000 in
theorem ggX4_needSlot_X2_slot : GoodIn wsX4_needSlot wsX2_slot := goodIn_r _ [13] (by decide +kernel) (by decide +kernel)
set_option maxRecDepth 20000 in
theorem gX4_needSlot_X2_slot : GoodIn wsX4_needSlot (va_wsS RX4 176 yX2_slot wsX2_slot) := goodIn_app (goodIn_of _ (by decide +kernel)) ggX4_needSlot_X2_slot
theorem dX4_needSlot_0 : decode cX4_needSlot 0 = .ok (.aload_n 0, 1) := by decide +kernel
theorem dX4_needSlot_1 : decode cX4_needSlot 1 = .ok (.getfield 12, 3) := by decide +kernel
theorem dX4_needSlot_4 : decode cX4_needSlot 4 = .ok (.iload_n 1, 1) := by decide +kernel
theorem dX4_needSlot_5 : decode cX4_needSlot 5 = .ok (.invokevirtual 63, 3) := by decide +kernel
theorem dX4_needSlot_8 : decode cX4_needSlot 8 = .ok (.ifCond .eq 20, 3) := by decide +kernel
theorem dX4_needSlot_11 : decode cX4_needSlot 11 = .ok (.iload_n 2, 1) := by decide +kernel
theorem dX4_needSlot_12 : decode cX4_needSlot 12 = .ok (.ifCond .lt 16, 3) := by decide +kernel
theorem dX4_needSlot_15 : decode cX4_needSlot 15 = .ok (.iload_n 2, 1) := by decide +kernel
theorem dX4_needSlot_16 : decode cX4_needSlot 16 = .ok (.aload_n 0, 1) := by decide +kernel
theorem dX4_needSlot_17 : decode cX4_needSlot 17 = .ok (.getfield 12, 3) := by decide +kernel
theorem dX4_needSlot_20 : decode cX4_needSlot 20 = .ok (.getfield 78, 3) := by decide +kernel
theorem dX4_needSlot_23 : decode cX4_needSlot 23 = .ok (.iload_n 1, 1) := by decide +kernel
theorem dX4_needSlot_24 : decode cX4_needSlot 24 = .ok (.iaload, 1) := by decide +kernel
theorem dX4_needSlot_25 : decode cX4_needSlot 25 = .ok (.if_icmp .lt 13, 3) := by decide +kernel
theorem dX4_needSlot_28 : decode cX4_needSlot 28 = .ok (.new 67, 3) := by decide +kernel
theorem dX4_needSlot_31 : decode cX4_needSlot 31 = .ok (.dup, 1) := by decide +kernel
theorem dX4_needSlot_32 : decode cX4_needSlot 32 = .ok (.ldc 76, 2) := by decide +kernel
theorem dX4_needSlot_34 : decode cX4_needSlot 34 = .ok (.invokespecial 71, 3) := by decide +kernel
theorem dX4_needSlot_37 : decode cX4_needSlot 37 = .ok (.athrow, 1) := by decide +kernel
theorem dX4_needSlot_38 : decode cX4_needSlot 38 = .ok (.iload_n 1, 1) := by decide +kernel
theorem dX4_needSlot_39 : decode cX4_needSlot 39 = .ok (.iload_n 2, 1) := by decide +kernel
theorem dX4_needSlot_40 : decode cX4_needSlot 40 = .ok (.invokestatic 176, 3) := by decide +kernel
theorem dX4_needSlot_43 : decode cX4_needSlot 43 = .ok (.ireturn, 1) := by decide +kernel
set_option maxRecDepth 20000 in
theorem ggX4_sizeOf_X2_slot : GoodIn wsX4_sizeOf wsX2_slot := goodIn_r _ [11] (by decide +kernel) (by decide +kernel)
set_option maxRecDepth 20000 in
theorem gX4_sizeOf_X2_slot : GoodIn wsX4_sizeOf (va_wsS RX4 176 yX2_slot wsX2_slot) := goodIn_app (goodIn_of _ (by decide +kernel)) ggX4_sizeOf_X2_slot
set_option maxRecDepth 20000 in
theorem ggX4_sizeOf_X2_size : GoodIn wsX4_sizeOf wsX2_size := goodIn_r _ [15, 16, 17, 18, 19, 24, 25, 26, 27, 28, 29, 30, 31, 32] (by decide +kernel) (by decide +kernel)
set_option maxRecDepth 20000 in
theorem gX4_sizeOf_X2_size : GoodIn wsX4_sizeOf (wsV RX4 179 RX2 yX2_size wsX2_size) := goodIn_app (goodIn_of _ (by decide +kernel)) ggX4_sizeOf_X2_size
theorem dX4_sizeOf_0 : decode cX4_sizeOf 0 = .ok (.lconst 0, 1) := by decide +kernel
theorem dX4_sizeOf_1 : decode cX4_sizeOf 1 = .ok (.lstore_n 2, 1) := by decide +kernel
theorem dX4_sizeOf_2 : decode cX4_sizeOf 2 = .ok (.iconst 0, 1) := by decide +kernel
theorem dX4_sizeOf_3 : decode cX4_sizeOf 3 = .ok (.istore 4, 2) := by decide +kernel
theorem dX4_sizeOf_5 : decode cX4_sizeOf 5 = .ok (.iload 4, 2) := by decide +kernel
theorem dX4_sizeOf_7 : decode cX4_sizeOf 7 = .ok (.aload_n 0, 1) := by decide +kernel
theorem dX4_sizeOf_8 : decode cX4_sizeOf 8 = .ok (.getfield 12, 3) := by decide +kernel
theorem dX4_sizeOf_11 : decode cX4_sizeOf 11 = .ok (.getfield 55, 3) := by decide +kernel
theorem dX4_sizeOf_14 : decode cX4_sizeOf 14 = .ok (.if_icmp .ge 76, 3) := by decide +kernel
theorem dX4_sizeOf_17 : decode cX4_sizeOf 17 = .ok (.iconst 0, 1) := by decide +kernel
theorem dX4_sizeOf_18 : decode cX4_sizeOf 18 = .ok (.istore 5, 2) := by decide +kernel
theorem dX4_sizeOf_20 : decode cX4_sizeOf 20 = .ok (.iload 5, 2) := by decide +kernel
theorem dX4_sizeOf_22 : decode cX4_sizeOf 22 = .ok (.aload_n 0, 1) := by decide +kernel
theorem dX4_sizeOf_23 : decode cX4_sizeOf 23 = .ok (.getfield 12, 3) := by decide +kernel
theorem dX4_sizeOf_26 : decode cX4_sizeOf 26 = .ok (.getfield 78, 3) := by decide +kernel
theorem dX4_sizeOf_29 : decode cX4_sizeOf 29 = .ok (.iload 4, 2) := by decide +kernel
theorem dX4_sizeOf_31 : decode cX4_sizeOf 31 = .ok (.iaload, 1) := by decide +kernel
theorem dX4_sizeOf_32 : decode cX4_sizeOf 32 = .ok (.if_icmp .ge 52, 3) := by decide +kernel
theorem dX4_sizeOf_35 : decode cX4_sizeOf 35 = .ok (.iload 4, 2) := by decide +kernel
theorem dX4_sizeOf_37 : decode cX4_sizeOf 37 = .ok (.iload 5, 2) := by decide +kernel
theorem dX4_sizeOf_39 : decode cX4_sizeOf 39 = .ok (.invokestatic 176, 3) := by decide +kernel
theorem dX4_sizeOf_42 : decode cX4_sizeOf 42 = .ok (.istore 6, 2) := by decide +kernel
theorem dX4_sizeOf_44 : decode cX4_sizeOf 44 = .ok (.aload_n 0, 1) := by decide +kernel
theorem dX4_sizeOf_45 : decode cX4_sizeOf 45 = .ok (.getfield 30, 3) := by decide +kernel
theorem dX4_sizeOf_48 : decode cX4_sizeOf 48 = .ok (.getfield 131, 3) := by decide +kernel
theorem dX4_sizeOf_51 : decode cX4_sizeOf 51 = .ok (.aload_n 0, 1) := by decide +kernel
theorem dX4_sizeOf_52 : decode cX4_sizeOf 52 = .ok (.getfield 21, 3) := by decide +kernel
theorem dX4_sizeOf_55 : decode cX4_sizeOf 55 = .ok (.getfield 107, 3) := by decide +kernel
theorem dX4_sizeOf_58 : decode cX4_sizeOf 58 = .ok (.iload 6, 2) := by decide +kernel
theorem dX4_sizeOf_60 : decode cX4_sizeOf 60 = .ok (.iaload, 1) := by decide +kernel
theorem dX4_sizeOf_61 : decode cX4_sizeOf 61 = .ok (.iaload, 1) := by decide +kernel
theorem dX4_sizeOf_62 : decode cX4_sizeOf 62 = .ok (.iload_n 1, 1) := by decide +kernel
theorem dX4_sizeOf_63 : decode cX4_sizeOf 63 = .ok (.if_icmp .ne 15, 3) := by decide +kernel
theorem dX4_sizeOf_66 : decode cX4_sizeOf 66 = .ok (.lload_n 2, 1) := by decide +kernel
theorem dX4_sizeOf_67 : decode cX4_sizeOf 67 = .ok (.aload_n 0, 1) := by decide +kernel
theorem dX4_sizeOf_68 : decode cX4_sizeOf 68 = .ok (.getfield 12, 3) := by decide +kernel
theorem dX4_sizeOf_71 : decode cX4_sizeOf 71 = .ok (.iload 6, 2) := by decide +kernel
theorem dX4_sizeOf_73 : decode cX4_sizeOf 73 = .ok (.invokevirtual 179, 3) := by decide +kernel
theorem dX4_sizeOf_76 : decode cX4_sizeOf 76 = .ok (.ladd, 1) := by decide +kernel
theorem dX4_sizeOf_77 : decode cX4_sizeOf 77 = .ok (.lstore_n 2, 1) := by decide +kernel
theorem dX4_sizeOf_78 : decode cX4_sizeOf 78 = .ok (.iinc 5 1, 3) := by decide +kernel
theorem dX4_sizeOf_81 : decode cX4_sizeOf 81 = .ok (.goto (-61), 3) := by decide +kernel
theorem dX4_sizeOf_84 : decode cX4_sizeOf 84 = .ok (.iinc 4 1, 3) := by decide +kernel
theorem dX4_sizeOf_87 : decode cX4_sizeOf 87 = .ok (.goto (-82), 3) := by decide +kernel
theorem dX4_sizeOf_90 : decode cX4_sizeOf 90 = .ok (.lload_n 2, 1) := by decide +kernel
theorem dX4_sizeOf_91 : decode cX4_sizeOf 91 = .ok (.lreturn, 1) := by decide +kernel
theorem dX4_isSpan_0 : decode cX4_isSpan 0 = .ok (.iload_n 0, 1) := by decide +kernel
theorem dX4_isSpan_1 : decode cX4_isSpan 1 = .ok (.sipush (-10000), 3) := by decide +kernel
theorem dX4_isSpan_4 : decode cX4_isSpan 4 = .ok (.if_icmp .lt 19, 3) := by decide +kernel
theorem dX4_isSpan_7 : decode cX4_isSpan 7 = .ok (.iload_n 1, 1) := by decide +kernel
theorem dX4_isSpan_8 : decode cX4_isSpan 8 = .ok (.sipush 10000, 3) := by decide +kernel
theorem dX4_isSpan_11 : decode cX4_isSpan 11 = .ok (.if_icmp .gt 12, 3) := by decide +kernel
theorem dX4_isSpan_14 : decode cX4_isSpan 14 = .ok (.iload_n 0, 1) := by decide +kernel
theorem dX4_isSpan_15 : decode cX4_isSpan 15 = .ok (.iload_n 1, 1) := by decide +kernel
theorem dX4_isSpan_16 : decode cX4_isSpan 16 = .ok (.if_icmp .ge 7, 3) := by decide +kernel
theorem dX4_isSpan_19 : decode cX4_isSpan 19 = .ok (.iconst 1, 1) := by decide +kernel
theorem dX4_isSpan_20 : decode cX4_isSpan 20 = .ok (.goto 4, 3) := by decide +kernel
theorem dX4_isSpan_23 : decode cX4_isSpan 23 = .ok (.iconst 0, 1) := by decide +kernel
theorem dX4_isSpan_24 : decode cX4_isSpan 24 = .ok (.ireturn, 1) := by decide +kernel
theorem dX4_isColour_0 : decode cX4_isColour 0 = .ok (.iload_n 0, 1) := by decide +kernel
theorem dX4_isColour_1 : decode cX4_isColour 1 = .ok (.ifCond .lt 12, 3) := by decide +kernel
theorem dX4_isColour_4 : decode cX4_isColour 4 = .ok (.iload_n 0, 1) := by decide +kernel
theorem dX4_isColour_5 : decode cX4_isColour 5 = .ok (.iconst 4, 1) := by decide +kernel
theorem dX4_isColour_6 : decode cX4_isColour 6 = .ok (.if_icmp .ge 7, 3) := by decide +kernel
theorem dX4_isColour_9 : decode cX4_isColour 9 = .ok (.iconst 1, 1) := by decide +kernel
theorem dX4_isColour_10 : decode cX4_isColour 10 = .ok (.goto 4, 3) := by decide +kernel
theorem dX4_isColour_13 : decode cX4_isColour 13 = .ok (.iconst 0, 1) := by decide +kernel
theorem dX4_isColour_14 : decode cX4_isColour 14 = .ok (.ireturn, 1) := by decide +kernel
theorem dX4_bit_0 : decode cX4_bit 0 = .ok (.lconst 1, 1) := by decide +kernel
theorem dX4_bit_1 : decode cX4_bit 1 = .ok (.iload_n 0, 1) := by decide +kernel
theorem dX4_bit_2 : decode cX4_bit 2 = .ok (.lshl, 1) := by decide +kernel
theorem dX4_bit_3 : decode cX4_bit 3 = .ok (.lreturn, 1) := by decide +kernel
